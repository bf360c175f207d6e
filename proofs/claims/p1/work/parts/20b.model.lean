set_option maxHeartbeats 4000000 in
set_option maxRecDepth 100000 in
theorem m_isBetween (l : Launch) (A : Nat → Prop) (D : va_G) (k : Nat → ClassId) (q : Nat → Nat) (f : Nat → Nat → Int32) (pa : Nat → Option Nat) (v : Nat → Int32) (p0 p1 p2 : Int32)   :
    Met l yX10_isBetween (fz_ws yX10_isBetween cX10_isBetween 3 (some .boolean)) { frames := 0, cells := 0, slots := 0, locals := 0 } (va_Pc [.int p0, .int p1, .int p2] (fz_PC A D (fz_tys k) (fz_WM k q f pa v))) (fz_QI D A (fun (_ : Unit) => fz_WM k q f pa v) (fun (r : Int32) (_ : Unit) => (r = 1 ∧ (p1 ≤ p0 ∧ p0 ≤ p2)) ∨ (r = 0 ∧ ¬ ((p1 ≤ p0 ∧ p0 ≤ p2))))) 0 0 A := by
  refine fz_of (by decide +kernel) (Nat.le_of_ble_eq_true rfl) ?_
  intro p e s m below meth c hx hb hr hml hown hlocks hts hin hA hP hK hD hG hS ls hl
  have hown : s.vm.findClass RX10 = some m.cls := hown
  have S0 : CallFix p m c cX10_isBetween 3 s [.int p0, .int p1, .int p2].toArray (fz_ws yX10_isBetween cX10_isBetween 3 (some .boolean)) RX10 := ⟨hx, hb, hml, hown, hts⟩
  have hl : lv_has ls 3 [(0, .int p0), (1, .int p1), (2, .int p2)] := hl
  refine lv_iload_n hx hb dX10_isBetween_0 rfl (lv_at hl 0 rfl) ?_
  refine lv_iload_n hx hb dX10_isBetween_1 rfl (lv_at hl 1 rfl) ?_
  refine lv_icmp_lt (tgt := 14) hx hb dX10_isBetween_2 (by decide) (fun c_1 => ?_) (fun c_1 => ?_)
  · skip
    refine lv_iconst (v := 0) hx hb dX10_isBetween_14 (by decide) ?_
    exact fz_iret hx hb hr rfl hlocks hS dX10_isBetween_15 () (Or.inr ⟨rfl, (fq_98 p0 p1 p2 c_1)⟩) hP (Nat.le_of_ble_eq_true rfl) (Nat.le_of_ble_eq_true rfl)
  · skip
    refine lv_iload_n hx hb dX10_isBetween_5 rfl (lv_at hl 0 rfl) ?_
    refine lv_iload_n hx hb dX10_isBetween_6 rfl (lv_at hl 2 rfl) ?_
    refine lv_icmp_gt (tgt := 14) hx hb dX10_isBetween_7 (by decide) (fun c_2 => ?_) (fun c_2 => ?_)
    · skip
      refine lv_iconst (v := 0) hx hb dX10_isBetween_14 (by decide) ?_
      exact fz_iret hx hb hr rfl hlocks hS dX10_isBetween_15 () (Or.inr ⟨rfl, (fq_99 p0 p1 p2 c_2)⟩) hP (Nat.le_of_ble_eq_true rfl) (Nat.le_of_ble_eq_true rfl)
    · skip
      refine lv_iconst (v := 1) hx hb dX10_isBetween_10 (by decide) ?_
      refine lv_goto (tgt := 15) hx hb dX10_isBetween_11 (by decide) ?_
      exact fz_iret hx hb hr rfl hlocks hS dX10_isBetween_15 () (Or.inl ⟨rfl, (fq_100 p0 p1 p2 c_1 c_2)⟩) hP (Nat.le_of_ble_eq_true rfl) (Nat.le_of_ble_eq_true rfl)

set_option maxHeartbeats 4000000 in
set_option maxRecDepth 100000 in
theorem m_countBits (l : Launch) (A : Nat → Prop) (D : va_G) (k : Nat → ClassId) (q : Nat → Nat) (f : Nat → Nat → Int32) (pa : Nat → Option Nat) (v : Nat → Int32)   :
    Met l yX10_countBits (fz_ws yX10_countBits cX10_countBits 3 (some .int)) { frames := 0, cells := 0, slots := 0, locals := 0 } (va_Pc [.int 0] (fz_PC A D (fz_tys k) (fz_WM k q f pa v))) (fz_QI D A (fun (_ : Unit) => fz_WM k q f pa v) (fun (r : Int32) (_ : Unit) => r = 0)) 0 0 A := by
  refine fz_of (by decide +kernel) (Nat.le_of_ble_eq_true rfl) ?_
  intro p e s m below meth c hx hb hr hml hown hlocks hts hin hA hP hK hD hG hS ls hl
  have hown : s.vm.findClass RX10 = some m.cls := hown
  have S0 : CallFix p m c cX10_countBits 3 s [.int 0].toArray (fz_ws yX10_countBits cX10_countBits 3 (some .int)) RX10 := ⟨hx, hb, hml, hown, hts⟩
  have hl : lv_has ls 3 [(0, .int 0)] := hl
  refine lv_iconst (v := 0) hx hb dX10_countBits_0 (by decide) ?_
  refine lv_istore_n (lv' := [(1, .int 0), (0, .int 0)]) hx hb dX10_countBits_1 rfl hl (by decide) rfl (fun ls hl => ?_)
  refine lv_iload_n hx hb dX10_countBits_2 rfl (lv_at hl 1 rfl) ?_
  refine lv_istore_n (lv' := [(2, .int 0), (1, .int 0), (0, .int 0)]) hx hb dX10_countBits_3 rfl hl (by decide) rfl (fun ls hl => ?_)
  refine lv_iload_n hx hb dX10_countBits_4 rfl (lv_at hl 0 rfl) ?_
  refine lv_if_eq (tgt := 20) hx hb dX10_countBits_5 (by decide) (fun c_1 => ?_) (fun c_1 => absurd (by decide) c_1)
  refine lv_iload_n hx hb dX10_countBits_20 rfl (lv_at hl 1 rfl) ?_
  exact fz_iret hx hb hr rfl hlocks hS dX10_countBits_21 () rfl hP (Nat.le_of_ble_eq_true rfl) (Nat.le_of_ble_eq_true rfl)

set_option maxHeartbeats 4000000 in
set_option maxRecDepth 100000 in
theorem m_greater (l : Launch) (A : Nat → Prop) (D : va_G) (k : Nat → ClassId) (q : Nat → Nat) (f : Nat → Nat → Int32) (pa : Nat → Option Nat) (v : Nat → Int32)   :
    Met l yX10_greater (fz_ws yX10_greater cX10_greater 2 (some .int)) { frames := 0, cells := 0, slots := 0, locals := 0 } (va_Pc [.int (-1), .int (-1)] (fz_PC A D (fz_tys k) (fz_WM k q f pa v))) (fz_QI D A (fun (_ : Unit) => fz_WM k q f pa v) (fun (r : Int32) (_ : Unit) => r = (-1))) 0 0 A := by
  refine fz_of (by decide +kernel) (Nat.le_of_ble_eq_true rfl) ?_
  intro p e s m below meth c hx hb hr hml hown hlocks hts hin hA hP hK hD hG hS ls hl
  have hown : s.vm.findClass RX10 = some m.cls := hown
  have S0 : CallFix p m c cX10_greater 2 s [.int (-1), .int (-1)].toArray (fz_ws yX10_greater cX10_greater 2 (some .int)) RX10 := ⟨hx, hb, hml, hown, hts⟩
  have hl : lv_has ls 2 [(0, .int (-1)), (1, .int (-1))] := hl
  refine lv_iload_n hx hb dX10_greater_0 rfl (lv_at hl 0 rfl) ?_
  refine lv_iload_n hx hb dX10_greater_1 rfl (lv_at hl 1 rfl) ?_
  refine lv_icmp_le (tgt := 9) hx hb dX10_greater_2 (by decide) (fun c_1 => ?_) (fun c_1 => absurd (by decide) c_1)
  refine lv_iload_n hx hb dX10_greater_9 rfl (lv_at hl 1 rfl) ?_
  exact fz_iret hx hb hr rfl hlocks hS dX10_greater_10 () rfl hP (Nat.le_of_ble_eq_true rfl) (Nat.le_of_ble_eq_true rfl)

set_option maxHeartbeats 4000000 in
set_option maxRecDepth 100000 in
theorem m_fails1 (l : Launch) (A : Nat → Prop) (D : va_G) (k : Nat → ClassId) (q : Nat → Nat) (f : Nat → Nat → Int32) (pa : Nat → Option Nat) (v : Nat → Int32) (p0 : Int32)   :
    Met l yX10_fails (fz_ws yX10_fails cX10_fails 3 (some .boolean)) { frames := 0, cells := 0, slots := 0, locals := 0 } (va_Pc [.ref (q 0), .int p0, .int 1] (fz_PC A D (fz_tys k) (fz_WM k q f pa v))) (fz_QI D A (fun (_ : Unit) => fz_WM k q f pa (va_up v 0 p0)) (fun (r : Int32) (_ : Unit) => r = 1)) 0 0 A := by
  refine fz_of (by decide +kernel) (Nat.le_of_ble_eq_true rfl) ?_
  intro p e s m below meth c hx hb hr hml hown hlocks hts hin hA hP hK hD hG hS ls hl
  have hown : s.vm.findClass RX10 = some m.cls := hown
  have S0 : CallFix p m c cX10_fails 3 s [.ref (q 0), .int p0, .int 1].toArray (fz_ws yX10_fails cX10_fails 3 (some .boolean)) RX10 := ⟨hx, hb, hml, hown, hts⟩
  have hl : lv_has ls 3 [(0, .ref (q 0)), (1, .int p0), (2, .int 1)] := hl
  refine lv_aload_n hx hb dX10_fails_0 rfl (lv_at hl 0 rfl) ?_
  refine lv_iload_n hx hb dX10_fails_1 rfl (lv_at hl 2 rfl) ?_
  refine lv_if_eq (tgt := 9) hx hb dX10_fails_2 (by decide) (fun c_1 => absurd c_1 (by decide)) (fun c_1 => ?_)
  refine lv_iload_n hx hb dX10_fails_5 rfl (lv_at hl 1 rfl) ?_
  refine lv_goto (tgt := 10) hx hb dX10_fails_6 (by decide) ?_
  refine va_put (D := D) (ci := 14) (v := .int p0) (ty := .int) (C := RX10) (T := TX10) (N := 22) hx hb hts (fun w9 h9 => fz_m (fin_X10 w9 h9)) tyX10 tyX10_ok nmX10 hown hK hP hD hS 0 rfl rfl 0 (by decide) (hts _ (fz_m fm_463)) (fun _ h9 => h9) rfl (by decide +kernel) rfl rfl (Nat.le_of_ble_eq_true rfl) dX10_fails_10 (fun H locs hP hD hS => ?_)
  have hP : va_P D vwCl (fz_WM k q f pa (va_up v 0 p0)) H := hP
  have hD : va_D A (fz_WM k q f pa (va_up v 0 p0)) := hD
  refine lv_iload_n hx hb dX10_fails_13 rfl (lv_at hl 2 rfl) ?_
  exact fz_iret hx hb hr rfl hlocks hS dX10_fails_14 () rfl hP (Nat.le_of_ble_eq_true rfl) (Nat.le_of_ble_eq_true rfl)

set_option maxHeartbeats 4000000 in
set_option maxRecDepth 100000 in
theorem m_fails0 (l : Launch) (A : Nat → Prop) (D : va_G) (k : Nat → ClassId) (q : Nat → Nat) (f : Nat → Nat → Int32) (pa : Nat → Option Nat) (v : Nat → Int32) (p0 : Int32)   :
    Met l yX10_fails (fz_ws yX10_fails cX10_fails 3 (some .boolean)) { frames := 0, cells := 0, slots := 0, locals := 0 } (va_Pc [.ref (q 0), .int p0, .int 0] (fz_PC A D (fz_tys k) (fz_WM k q f pa v))) (fz_QI D A (fun (_ : Unit) => fz_WM k q f pa (va_up v 0 0)) (fun (r : Int32) (_ : Unit) => r = 0)) 0 0 A := by
  refine fz_of (by decide +kernel) (Nat.le_of_ble_eq_true rfl) ?_
  intro p e s m below meth c hx hb hr hml hown hlocks hts hin hA hP hK hD hG hS ls hl
  have hown : s.vm.findClass RX10 = some m.cls := hown
  have S0 : CallFix p m c cX10_fails 3 s [.ref (q 0), .int p0, .int 0].toArray (fz_ws yX10_fails cX10_fails 3 (some .boolean)) RX10 := ⟨hx, hb, hml, hown, hts⟩
  have hl : lv_has ls 3 [(0, .ref (q 0)), (1, .int p0), (2, .int 0)] := hl
  refine lv_aload_n hx hb dX10_fails_0 rfl (lv_at hl 0 rfl) ?_
  refine lv_iload_n hx hb dX10_fails_1 rfl (lv_at hl 2 rfl) ?_
  refine lv_if_eq (tgt := 9) hx hb dX10_fails_2 (by decide) (fun c_1 => ?_) (fun c_1 => absurd (by decide) c_1)
  refine lv_iconst (v := 0) hx hb dX10_fails_9 (by decide) ?_
  refine va_put (D := D) (ci := 14) (v := .int 0) (ty := .int) (C := RX10) (T := TX10) (N := 22) hx hb hts (fun w9 h9 => fz_m (fin_X10 w9 h9)) tyX10 tyX10_ok nmX10 hown hK hP hD hS 0 rfl rfl 0 (by decide) (hts _ (fz_m fm_463)) (fun _ h9 => h9) rfl (by decide +kernel) rfl rfl (Nat.le_of_ble_eq_true rfl) dX10_fails_10 (fun H locs hP hD hS => ?_)
  have hP : va_P D vwCl (fz_WM k q f pa (va_up v 0 0)) H := hP
  have hD : va_D A (fz_WM k q f pa (va_up v 0 0)) := hD
  refine lv_iload_n hx hb dX10_fails_13 rfl (lv_at hl 2 rfl) ?_
  exact fz_iret hx hb hr rfl hlocks hS dX10_fails_14 () rfl hP (Nat.le_of_ble_eq_true rfl) (Nat.le_of_ble_eq_true rfl)

set_option maxHeartbeats 4000000 in
set_option maxRecDepth 100000 in
theorem m_of0 (l : Launch) (A : Nat → Prop) (D : va_G) (k : Nat → ClassId) (q : Nat → Nat) (f : Nat → Nat → Int32) (pa : Nat → Option Nat) (v : Nat → Int32) (g_f_1_7 : f 1 7 = 1)  :
    Met l yX10_of (fz_ws yX10_of cX10_of 3 (some .int)) { frames := 0, cells := 0, slots := 0, locals := 0 } (va_Pc [.ref (q 0), .int 0, .int 0] (fz_PC A D (fz_tys k) (fz_WM k q f pa v))) (fz_QI D A (fun (_ : Unit) => fz_WM k q f pa v) (fun (r : Int32) (_ : Unit) => r = 1)) 0 0 A := by
  refine fz_of (by decide +kernel) (Nat.le_of_ble_eq_true rfl) ?_
  intro p e s m below meth c hx hb hr hml hown hlocks hts hin hA hP hK hD hG hS ls hl
  have hown : s.vm.findClass RX10 = some m.cls := hown
  have S0 : CallFix p m c cX10_of 3 s [.ref (q 0), .int 0, .int 0].toArray (fz_ws yX10_of cX10_of 3 (some .int)) RX10 := ⟨hx, hb, hml, hown, hts⟩
  have hl : lv_has ls 3 [(0, .ref (q 0)), (1, .int 0), (2, .int 0)] := hl
  refine lv_aload_n hx hb dX10_of_0 rfl (lv_at hl 0 rfl) ?_
  refine va_get (D := D) (ci := 14) (v := .ref (q 1)) (C := RX10) (T := TX10) (N := 22) hx hb hts (fun w9 h9 => fz_m (fin_X10 w9 h9)) hown hK hP 0 rfl rfl 1 (by decide) (hts _ (fz_m fm_462)) (fun _ h9 => h9) rfl dX10_of_1 ?_
  refine lv_bipush (v := 7) hx hb dX10_of_4 (by decide) ?_
  refine lv_iload_n hx hb dX10_of_6 rfl (lv_at hl 1 rfl) ?_
  refine lv_bipush (v := 31) hx hb dX10_of_7 (by decide) ?_
  refine lv_imul hx hb dX10_of_9 ?_
  refine fz_I (y := 0) (by decide) ?_
  refine lv_iadd hx hb dX10_of_10 ?_
  refine fz_I (y := 7) (by decide) ?_
  refine lv_iload_n hx hb dX10_of_11 rfl (lv_at hl 2 rfl) ?_
  refine lv_iadd hx hb dX10_of_12 ?_
  refine fz_I (y := 7) (by decide) ?_
  refine va_iald hx hb hK hP 1 0 rfl rfl (fz_vin (by decide)) dX10_of_13 ?_
  refine fz_I (y := 1) g_f_1_7 ?_
  exact fz_iret hx hb hr rfl hlocks hS dX10_of_14 () rfl hP (Nat.le_of_ble_eq_true rfl) (Nat.le_of_ble_eq_true rfl)

set_option maxHeartbeats 4000000 in
set_option maxRecDepth 100000 in
theorem m_of1 (l : Launch) (A : Nat → Prop) (D : va_G) (k : Nat → ClassId) (q : Nat → Nat) (f : Nat → Nat → Int32) (pa : Nat → Option Nat) (v : Nat → Int32) (g_f_1_8 : f 1 8 = 0)  :
    Met l yX10_of (fz_ws yX10_of cX10_of 3 (some .int)) { frames := 0, cells := 0, slots := 0, locals := 0 } (va_Pc [.ref (q 0), .int 0, .int 1] (fz_PC A D (fz_tys k) (fz_WM k q f pa v))) (fz_QI D A (fun (_ : Unit) => fz_WM k q f pa v) (fun (r : Int32) (_ : Unit) => r = 0)) 0 0 A := by
  refine fz_of (by decide +kernel) (Nat.le_of_ble_eq_true rfl) ?_
  intro p e s m below meth c hx hb hr hml hown hlocks hts hin hA hP hK hD hG hS ls hl
  have hown : s.vm.findClass RX10 = some m.cls := hown
  have S0 : CallFix p m c cX10_of 3 s [.ref (q 0), .int 0, .int 1].toArray (fz_ws yX10_of cX10_of 3 (some .int)) RX10 := ⟨hx, hb, hml, hown, hts⟩
  have hl : lv_has ls 3 [(0, .ref (q 0)), (1, .int 0), (2, .int 1)] := hl
  refine lv_aload_n hx hb dX10_of_0 rfl (lv_at hl 0 rfl) ?_
  refine va_get (D := D) (ci := 14) (v := .ref (q 1)) (C := RX10) (T := TX10) (N := 22) hx hb hts (fun w9 h9 => fz_m (fin_X10 w9 h9)) hown hK hP 0 rfl rfl 1 (by decide) (hts _ (fz_m fm_462)) (fun _ h9 => h9) rfl dX10_of_1 ?_
  refine lv_bipush (v := 7) hx hb dX10_of_4 (by decide) ?_
  refine lv_iload_n hx hb dX10_of_6 rfl (lv_at hl 1 rfl) ?_
  refine lv_bipush (v := 31) hx hb dX10_of_7 (by decide) ?_
  refine lv_imul hx hb dX10_of_9 ?_
  refine fz_I (y := 0) (by decide) ?_
  refine lv_iadd hx hb dX10_of_10 ?_
  refine fz_I (y := 7) (by decide) ?_
  refine lv_iload_n hx hb dX10_of_11 rfl (lv_at hl 2 rfl) ?_
  refine lv_iadd hx hb dX10_of_12 ?_
  refine fz_I (y := 8) (by decide) ?_
  refine va_iald hx hb hK hP 1 0 rfl rfl (fz_vin (by decide)) dX10_of_13 ?_
  refine fz_I (y := 0) g_f_1_8 ?_
  exact fz_iret hx hb hr rfl hlocks hS dX10_of_14 () rfl hP (Nat.le_of_ble_eq_true rfl) (Nat.le_of_ble_eq_true rfl)

set_option maxHeartbeats 4000000 in
set_option maxRecDepth 100000 in
theorem m_of2 (l : Launch) (A : Nat → Prop) (D : va_G) (k : Nat → ClassId) (q : Nat → Nat) (f : Nat → Nat → Int32) (pa : Nat → Option Nat) (v : Nat → Int32) (g_f_1_9 : f 1 9 = (-1))  :
    Met l yX10_of (fz_ws yX10_of cX10_of 3 (some .int)) { frames := 0, cells := 0, slots := 0, locals := 0 } (va_Pc [.ref (q 0), .int 0, .int 2] (fz_PC A D (fz_tys k) (fz_WM k q f pa v))) (fz_QI D A (fun (_ : Unit) => fz_WM k q f pa v) (fun (r : Int32) (_ : Unit) => r = (-1))) 0 0 A := by
  refine fz_of (by decide +kernel) (Nat.le_of_ble_eq_true rfl) ?_
  intro p e s m below meth c hx hb hr hml hown hlocks hts hin hA hP hK hD hG hS ls hl
  have hown : s.vm.findClass RX10 = some m.cls := hown
  have S0 : CallFix p m c cX10_of 3 s [.ref (q 0), .int 0, .int 2].toArray (fz_ws yX10_of cX10_of 3 (some .int)) RX10 := ⟨hx, hb, hml, hown, hts⟩
  have hl : lv_has ls 3 [(0, .ref (q 0)), (1, .int 0), (2, .int 2)] := hl
  refine lv_aload_n hx hb dX10_of_0 rfl (lv_at hl 0 rfl) ?_
  refine va_get (D := D) (ci := 14) (v := .ref (q 1)) (C := RX10) (T := TX10) (N := 22) hx hb hts (fun w9 h9 => fz_m (fin_X10 w9 h9)) hown hK hP 0 rfl rfl 1 (by decide) (hts _ (fz_m fm_462)) (fun _ h9 => h9) rfl dX10_of_1 ?_
  refine lv_bipush (v := 7) hx hb dX10_of_4 (by decide) ?_
  refine lv_iload_n hx hb dX10_of_6 rfl (lv_at hl 1 rfl) ?_
  refine lv_bipush (v := 31) hx hb dX10_of_7 (by decide) ?_
  refine lv_imul hx hb dX10_of_9 ?_
  refine fz_I (y := 0) (by decide) ?_
  refine lv_iadd hx hb dX10_of_10 ?_
  refine fz_I (y := 7) (by decide) ?_
  refine lv_iload_n hx hb dX10_of_11 rfl (lv_at hl 2 rfl) ?_
  refine lv_iadd hx hb dX10_of_12 ?_
  refine fz_I (y := 9) (by decide) ?_
  refine va_iald hx hb hK hP 1 0 rfl rfl (fz_vin (by decide)) dX10_of_13 ?_
  refine fz_I (y := (-1)) g_f_1_9 ?_
  exact fz_iret hx hb hr rfl hlocks hS dX10_of_14 () rfl hP (Nat.le_of_ble_eq_true rfl) (Nat.le_of_ble_eq_true rfl)

set_option maxHeartbeats 4000000 in
set_option maxRecDepth 100000 in
theorem m_of3 (l : Launch) (A : Nat → Prop) (D : va_G) (k : Nat → ClassId) (q : Nat → Nat) (f : Nat → Nat → Int32) (pa : Nat → Option Nat) (v : Nat → Int32) (g_f_1_10 : f 1 10 = 0)  :
    Met l yX10_of (fz_ws yX10_of cX10_of 3 (some .int)) { frames := 0, cells := 0, slots := 0, locals := 0 } (va_Pc [.ref (q 0), .int 0, .int 3] (fz_PC A D (fz_tys k) (fz_WM k q f pa v))) (fz_QI D A (fun (_ : Unit) => fz_WM k q f pa v) (fun (r : Int32) (_ : Unit) => r = 0)) 0 0 A := by
  refine fz_of (by decide +kernel) (Nat.le_of_ble_eq_true rfl) ?_
  intro p e s m below meth c hx hb hr hml hown hlocks hts hin hA hP hK hD hG hS ls hl
  have hown : s.vm.findClass RX10 = some m.cls := hown
  have S0 : CallFix p m c cX10_of 3 s [.ref (q 0), .int 0, .int 3].toArray (fz_ws yX10_of cX10_of 3 (some .int)) RX10 := ⟨hx, hb, hml, hown, hts⟩
  have hl : lv_has ls 3 [(0, .ref (q 0)), (1, .int 0), (2, .int 3)] := hl
  refine lv_aload_n hx hb dX10_of_0 rfl (lv_at hl 0 rfl) ?_
  refine va_get (D := D) (ci := 14) (v := .ref (q 1)) (C := RX10) (T := TX10) (N := 22) hx hb hts (fun w9 h9 => fz_m (fin_X10 w9 h9)) hown hK hP 0 rfl rfl 1 (by decide) (hts _ (fz_m fm_462)) (fun _ h9 => h9) rfl dX10_of_1 ?_
  refine lv_bipush (v := 7) hx hb dX10_of_4 (by decide) ?_
  refine lv_iload_n hx hb dX10_of_6 rfl (lv_at hl 1 rfl) ?_
  refine lv_bipush (v := 31) hx hb dX10_of_7 (by decide) ?_
  refine lv_imul hx hb dX10_of_9 ?_
  refine fz_I (y := 0) (by decide) ?_
  refine lv_iadd hx hb dX10_of_10 ?_
  refine fz_I (y := 7) (by decide) ?_
  refine lv_iload_n hx hb dX10_of_11 rfl (lv_at hl 2 rfl) ?_
  refine lv_iadd hx hb dX10_of_12 ?_
  refine fz_I (y := 10) (by decide) ?_
  refine va_iald hx hb hK hP 1 0 rfl rfl (fz_vin (by decide)) dX10_of_13 ?_
  refine fz_I (y := 0) g_f_1_10 ?_
  exact fz_iret hx hb hr rfl hlocks hS dX10_of_14 () rfl hP (Nat.le_of_ble_eq_true rfl) (Nat.le_of_ble_eq_true rfl)

set_option maxHeartbeats 4000000 in
set_option maxRecDepth 100000 in
theorem m_of4 (l : Launch) (A : Nat → Prop) (D : va_G) (k : Nat → ClassId) (q : Nat → Nat) (f : Nat → Nat → Int32) (pa : Nat → Option Nat) (v : Nat → Int32) (g_f_1_11 : f 1 11 = (-1))  :
    Met l yX10_of (fz_ws yX10_of cX10_of 3 (some .int)) { frames := 0, cells := 0, slots := 0, locals := 0 } (va_Pc [.ref (q 0), .int 0, .int 4] (fz_PC A D (fz_tys k) (fz_WM k q f pa v))) (fz_QI D A (fun (_ : Unit) => fz_WM k q f pa v) (fun (r : Int32) (_ : Unit) => r = (-1))) 0 0 A := by
  refine fz_of (by decide +kernel) (Nat.le_of_ble_eq_true rfl) ?_
  intro p e s m below meth c hx hb hr hml hown hlocks hts hin hA hP hK hD hG hS ls hl
  have hown : s.vm.findClass RX10 = some m.cls := hown
  have S0 : CallFix p m c cX10_of 3 s [.ref (q 0), .int 0, .int 4].toArray (fz_ws yX10_of cX10_of 3 (some .int)) RX10 := ⟨hx, hb, hml, hown, hts⟩
  have hl : lv_has ls 3 [(0, .ref (q 0)), (1, .int 0), (2, .int 4)] := hl
  refine lv_aload_n hx hb dX10_of_0 rfl (lv_at hl 0 rfl) ?_
  refine va_get (D := D) (ci := 14) (v := .ref (q 1)) (C := RX10) (T := TX10) (N := 22) hx hb hts (fun w9 h9 => fz_m (fin_X10 w9 h9)) hown hK hP 0 rfl rfl 1 (by decide) (hts _ (fz_m fm_462)) (fun _ h9 => h9) rfl dX10_of_1 ?_
  refine lv_bipush (v := 7) hx hb dX10_of_4 (by decide) ?_
  refine lv_iload_n hx hb dX10_of_6 rfl (lv_at hl 1 rfl) ?_
  refine lv_bipush (v := 31) hx hb dX10_of_7 (by decide) ?_
  refine lv_imul hx hb dX10_of_9 ?_
  refine fz_I (y := 0) (by decide) ?_
  refine lv_iadd hx hb dX10_of_10 ?_
  refine fz_I (y := 7) (by decide) ?_
  refine lv_iload_n hx hb dX10_of_11 rfl (lv_at hl 2 rfl) ?_
  refine lv_iadd hx hb dX10_of_12 ?_
  refine fz_I (y := 11) (by decide) ?_
  refine va_iald hx hb hK hP 1 0 rfl rfl (fz_vin (by decide)) dX10_of_13 ?_
  refine fz_I (y := (-1)) g_f_1_11 ?_
  exact fz_iret hx hb hr rfl hlocks hS dX10_of_14 () rfl hP (Nat.le_of_ble_eq_true rfl) (Nat.le_of_ble_eq_true rfl)

set_option maxHeartbeats 4000000 in
set_option maxRecDepth 100000 in
theorem m_of5 (l : Launch) (A : Nat → Prop) (D : va_G) (k : Nat → ClassId) (q : Nat → Nat) (f : Nat → Nat → Int32) (pa : Nat → Option Nat) (v : Nat → Int32) (g_f_1_12 : f 1 12 = (-1))  :
    Met l yX10_of (fz_ws yX10_of cX10_of 3 (some .int)) { frames := 0, cells := 0, slots := 0, locals := 0 } (va_Pc [.ref (q 0), .int 0, .int 5] (fz_PC A D (fz_tys k) (fz_WM k q f pa v))) (fz_QI D A (fun (_ : Unit) => fz_WM k q f pa v) (fun (r : Int32) (_ : Unit) => r = (-1))) 0 0 A := by
  refine fz_of (by decide +kernel) (Nat.le_of_ble_eq_true rfl) ?_
  intro p e s m below meth c hx hb hr hml hown hlocks hts hin hA hP hK hD hG hS ls hl
  have hown : s.vm.findClass RX10 = some m.cls := hown
  have S0 : CallFix p m c cX10_of 3 s [.ref (q 0), .int 0, .int 5].toArray (fz_ws yX10_of cX10_of 3 (some .int)) RX10 := ⟨hx, hb, hml, hown, hts⟩
  have hl : lv_has ls 3 [(0, .ref (q 0)), (1, .int 0), (2, .int 5)] := hl
  refine lv_aload_n hx hb dX10_of_0 rfl (lv_at hl 0 rfl) ?_
  refine va_get (D := D) (ci := 14) (v := .ref (q 1)) (C := RX10) (T := TX10) (N := 22) hx hb hts (fun w9 h9 => fz_m (fin_X10 w9 h9)) hown hK hP 0 rfl rfl 1 (by decide) (hts _ (fz_m fm_462)) (fun _ h9 => h9) rfl dX10_of_1 ?_
  refine lv_bipush (v := 7) hx hb dX10_of_4 (by decide) ?_
  refine lv_iload_n hx hb dX10_of_6 rfl (lv_at hl 1 rfl) ?_
  refine lv_bipush (v := 31) hx hb dX10_of_7 (by decide) ?_
  refine lv_imul hx hb dX10_of_9 ?_
  refine fz_I (y := 0) (by decide) ?_
  refine lv_iadd hx hb dX10_of_10 ?_
  refine fz_I (y := 7) (by decide) ?_
  refine lv_iload_n hx hb dX10_of_11 rfl (lv_at hl 2 rfl) ?_
  refine lv_iadd hx hb dX10_of_12 ?_
  refine fz_I (y := 12) (by decide) ?_
  refine va_iald hx hb hK hP 1 0 rfl rfl (fz_vin (by decide)) dX10_of_13 ?_
  refine fz_I (y := (-1)) g_f_1_12 ?_
  exact fz_iret hx hb hr rfl hlocks hS dX10_of_14 () rfl hP (Nat.le_of_ble_eq_true rfl) (Nat.le_of_ble_eq_true rfl)

set_option maxHeartbeats 4000000 in
set_option maxRecDepth 100000 in
theorem m_of6 (l : Launch) (A : Nat → Prop) (D : va_G) (k : Nat → ClassId) (q : Nat → Nat) (f : Nat → Nat → Int32) (pa : Nat → Option Nat) (v : Nat → Int32) (g_f_1_13 : f 1 13 = (-1))  :
    Met l yX10_of (fz_ws yX10_of cX10_of 3 (some .int)) { frames := 0, cells := 0, slots := 0, locals := 0 } (va_Pc [.ref (q 0), .int 0, .int 6] (fz_PC A D (fz_tys k) (fz_WM k q f pa v))) (fz_QI D A (fun (_ : Unit) => fz_WM k q f pa v) (fun (r : Int32) (_ : Unit) => r = (-1))) 0 0 A := by
  refine fz_of (by decide +kernel) (Nat.le_of_ble_eq_true rfl) ?_
  intro p e s m below meth c hx hb hr hml hown hlocks hts hin hA hP hK hD hG hS ls hl
  have hown : s.vm.findClass RX10 = some m.cls := hown
  have S0 : CallFix p m c cX10_of 3 s [.ref (q 0), .int 0, .int 6].toArray (fz_ws yX10_of cX10_of 3 (some .int)) RX10 := ⟨hx, hb, hml, hown, hts⟩
  have hl : lv_has ls 3 [(0, .ref (q 0)), (1, .int 0), (2, .int 6)] := hl
  refine lv_aload_n hx hb dX10_of_0 rfl (lv_at hl 0 rfl) ?_
  refine va_get (D := D) (ci := 14) (v := .ref (q 1)) (C := RX10) (T := TX10) (N := 22) hx hb hts (fun w9 h9 => fz_m (fin_X10 w9 h9)) hown hK hP 0 rfl rfl 1 (by decide) (hts _ (fz_m fm_462)) (fun _ h9 => h9) rfl dX10_of_1 ?_
  refine lv_bipush (v := 7) hx hb dX10_of_4 (by decide) ?_
  refine lv_iload_n hx hb dX10_of_6 rfl (lv_at hl 1 rfl) ?_
  refine lv_bipush (v := 31) hx hb dX10_of_7 (by decide) ?_
  refine lv_imul hx hb dX10_of_9 ?_
  refine fz_I (y := 0) (by decide) ?_
  refine lv_iadd hx hb dX10_of_10 ?_
  refine fz_I (y := 7) (by decide) ?_
  refine lv_iload_n hx hb dX10_of_11 rfl (lv_at hl 2 rfl) ?_
  refine lv_iadd hx hb dX10_of_12 ?_
  refine fz_I (y := 13) (by decide) ?_
  refine va_iald hx hb hK hP 1 0 rfl rfl (fz_vin (by decide)) dX10_of_13 ?_
  refine fz_I (y := (-1)) g_f_1_13 ?_
  exact fz_iret hx hb hr rfl hlocks hS dX10_of_14 () rfl hP (Nat.le_of_ble_eq_true rfl) (Nat.le_of_ble_eq_true rfl)

set_option maxHeartbeats 4000000 in
set_option maxRecDepth 100000 in
theorem m_of8 (l : Launch) (A : Nat → Prop) (D : va_G) (k : Nat → ClassId) (q : Nat → Nat) (f : Nat → Nat → Int32) (pa : Nat → Option Nat) (v : Nat → Int32) (g_f_1_15 : f 1 15 = (-1))  :
    Met l yX10_of (fz_ws yX10_of cX10_of 3 (some .int)) { frames := 0, cells := 0, slots := 0, locals := 0 } (va_Pc [.ref (q 0), .int 0, .int 8] (fz_PC A D (fz_tys k) (fz_WM k q f pa v))) (fz_QI D A (fun (_ : Unit) => fz_WM k q f pa v) (fun (r : Int32) (_ : Unit) => r = (-1))) 0 0 A := by
  refine fz_of (by decide +kernel) (Nat.le_of_ble_eq_true rfl) ?_
  intro p e s m below meth c hx hb hr hml hown hlocks hts hin hA hP hK hD hG hS ls hl
  have hown : s.vm.findClass RX10 = some m.cls := hown
  have S0 : CallFix p m c cX10_of 3 s [.ref (q 0), .int 0, .int 8].toArray (fz_ws yX10_of cX10_of 3 (some .int)) RX10 := ⟨hx, hb, hml, hown, hts⟩
  have hl : lv_has ls 3 [(0, .ref (q 0)), (1, .int 0), (2, .int 8)] := hl
  refine lv_aload_n hx hb dX10_of_0 rfl (lv_at hl 0 rfl) ?_
  refine va_get (D := D) (ci := 14) (v := .ref (q 1)) (C := RX10) (T := TX10) (N := 22) hx hb hts (fun w9 h9 => fz_m (fin_X10 w9 h9)) hown hK hP 0 rfl rfl 1 (by decide) (hts _ (fz_m fm_462)) (fun _ h9 => h9) rfl dX10_of_1 ?_
  refine lv_bipush (v := 7) hx hb dX10_of_4 (by decide) ?_
  refine lv_iload_n hx hb dX10_of_6 rfl (lv_at hl 1 rfl) ?_
  refine lv_bipush (v := 31) hx hb dX10_of_7 (by decide) ?_
  refine lv_imul hx hb dX10_of_9 ?_
  refine fz_I (y := 0) (by decide) ?_
  refine lv_iadd hx hb dX10_of_10 ?_
  refine fz_I (y := 7) (by decide) ?_
  refine lv_iload_n hx hb dX10_of_11 rfl (lv_at hl 2 rfl) ?_
  refine lv_iadd hx hb dX10_of_12 ?_
  refine fz_I (y := 15) (by decide) ?_
  refine va_iald hx hb hK hP 1 0 rfl rfl (fz_vin (by decide)) dX10_of_13 ?_
  refine fz_I (y := (-1)) g_f_1_15 ?_
  exact fz_iret hx hb hr rfl hlocks hS dX10_of_14 () rfl hP (Nat.le_of_ble_eq_true rfl) (Nat.le_of_ble_eq_true rfl)

set_option maxHeartbeats 4000000 in
set_option maxRecDepth 100000 in
theorem m_of9 (l : Launch) (A : Nat → Prop) (D : va_G) (k : Nat → ClassId) (q : Nat → Nat) (f : Nat → Nat → Int32) (pa : Nat → Option Nat) (v : Nat → Int32) (g_f_1_16 : f 1 16 = (-1))  :
    Met l yX10_of (fz_ws yX10_of cX10_of 3 (some .int)) { frames := 0, cells := 0, slots := 0, locals := 0 } (va_Pc [.ref (q 0), .int 0, .int 9] (fz_PC A D (fz_tys k) (fz_WM k q f pa v))) (fz_QI D A (fun (_ : Unit) => fz_WM k q f pa v) (fun (r : Int32) (_ : Unit) => r = (-1))) 0 0 A := by
  refine fz_of (by decide +kernel) (Nat.le_of_ble_eq_true rfl) ?_
  intro p e s m below meth c hx hb hr hml hown hlocks hts hin hA hP hK hD hG hS ls hl
  have hown : s.vm.findClass RX10 = some m.cls := hown
  have S0 : CallFix p m c cX10_of 3 s [.ref (q 0), .int 0, .int 9].toArray (fz_ws yX10_of cX10_of 3 (some .int)) RX10 := ⟨hx, hb, hml, hown, hts⟩
  have hl : lv_has ls 3 [(0, .ref (q 0)), (1, .int 0), (2, .int 9)] := hl
  refine lv_aload_n hx hb dX10_of_0 rfl (lv_at hl 0 rfl) ?_
  refine va_get (D := D) (ci := 14) (v := .ref (q 1)) (C := RX10) (T := TX10) (N := 22) hx hb hts (fun w9 h9 => fz_m (fin_X10 w9 h9)) hown hK hP 0 rfl rfl 1 (by decide) (hts _ (fz_m fm_462)) (fun _ h9 => h9) rfl dX10_of_1 ?_
  refine lv_bipush (v := 7) hx hb dX10_of_4 (by decide) ?_
  refine lv_iload_n hx hb dX10_of_6 rfl (lv_at hl 1 rfl) ?_
  refine lv_bipush (v := 31) hx hb dX10_of_7 (by decide) ?_
  refine lv_imul hx hb dX10_of_9 ?_
  refine fz_I (y := 0) (by decide) ?_
  refine lv_iadd hx hb dX10_of_10 ?_
  refine fz_I (y := 7) (by decide) ?_
  refine lv_iload_n hx hb dX10_of_11 rfl (lv_at hl 2 rfl) ?_
  refine lv_iadd hx hb dX10_of_12 ?_
  refine fz_I (y := 16) (by decide) ?_
  refine va_iald hx hb hK hP 1 0 rfl rfl (fz_vin (by decide)) dX10_of_13 ?_
  refine fz_I (y := (-1)) g_f_1_16 ?_
  exact fz_iret hx hb hr rfl hlocks hS dX10_of_14 () rfl hP (Nat.le_of_ble_eq_true rfl) (Nat.le_of_ble_eq_true rfl)

set_option maxHeartbeats 4000000 in
set_option maxRecDepth 100000 in
theorem m_of10 (l : Launch) (A : Nat → Prop) (D : va_G) (k : Nat → ClassId) (q : Nat → Nat) (f : Nat → Nat → Int32) (pa : Nat → Option Nat) (v : Nat → Int32) (g_f_1_17 : f 1 17 = 0)  :
    Met l yX10_of (fz_ws yX10_of cX10_of 3 (some .int)) { frames := 0, cells := 0, slots := 0, locals := 0 } (va_Pc [.ref (q 0), .int 0, .int 10] (fz_PC A D (fz_tys k) (fz_WM k q f pa v))) (fz_QI D A (fun (_ : Unit) => fz_WM k q f pa v) (fun (r : Int32) (_ : Unit) => r = 0)) 0 0 A := by
  refine fz_of (by decide +kernel) (Nat.le_of_ble_eq_true rfl) ?_
  intro p e s m below meth c hx hb hr hml hown hlocks hts hin hA hP hK hD hG hS ls hl
  have hown : s.vm.findClass RX10 = some m.cls := hown
  have S0 : CallFix p m c cX10_of 3 s [.ref (q 0), .int 0, .int 10].toArray (fz_ws yX10_of cX10_of 3 (some .int)) RX10 := ⟨hx, hb, hml, hown, hts⟩
  have hl : lv_has ls 3 [(0, .ref (q 0)), (1, .int 0), (2, .int 10)] := hl
  refine lv_aload_n hx hb dX10_of_0 rfl (lv_at hl 0 rfl) ?_
  refine va_get (D := D) (ci := 14) (v := .ref (q 1)) (C := RX10) (T := TX10) (N := 22) hx hb hts (fun w9 h9 => fz_m (fin_X10 w9 h9)) hown hK hP 0 rfl rfl 1 (by decide) (hts _ (fz_m fm_462)) (fun _ h9 => h9) rfl dX10_of_1 ?_
  refine lv_bipush (v := 7) hx hb dX10_of_4 (by decide) ?_
  refine lv_iload_n hx hb dX10_of_6 rfl (lv_at hl 1 rfl) ?_
  refine lv_bipush (v := 31) hx hb dX10_of_7 (by decide) ?_
  refine lv_imul hx hb dX10_of_9 ?_
  refine fz_I (y := 0) (by decide) ?_
  refine lv_iadd hx hb dX10_of_10 ?_
  refine fz_I (y := 7) (by decide) ?_
  refine lv_iload_n hx hb dX10_of_11 rfl (lv_at hl 2 rfl) ?_
  refine lv_iadd hx hb dX10_of_12 ?_
  refine fz_I (y := 17) (by decide) ?_
  refine va_iald hx hb hK hP 1 0 rfl rfl (fz_vin (by decide)) dX10_of_13 ?_
  refine fz_I (y := 0) g_f_1_17 ?_
  exact fz_iret hx hb hr rfl hlocks hS dX10_of_14 () rfl hP (Nat.le_of_ble_eq_true rfl) (Nat.le_of_ble_eq_true rfl)

set_option maxHeartbeats 4000000 in
set_option maxRecDepth 100000 in
theorem m_of7 (l : Launch) (A : Nat → Prop) (D : va_G) (k : Nat → ClassId) (q : Nat → Nat) (f : Nat → Nat → Int32) (pa : Nat → Option Nat) (v : Nat → Int32)   :
    Met l yX10_of (fz_ws yX10_of cX10_of 3 (some .int)) { frames := 0, cells := 0, slots := 0, locals := 0 } (va_Pc [.ref (q 0), .int 0, .int 7] (fz_PC A D (fz_tys k) (fz_WM k q f pa v))) (fz_QI D A (fun (_ : Unit) => fz_WM k q f pa v) (fun (r : Int32) (_ : Unit) => True)) 0 0 A := by
  refine fz_of (by decide +kernel) (Nat.le_of_ble_eq_true rfl) ?_
  intro p e s m below meth c hx hb hr hml hown hlocks hts hin hA hP hK hD hG hS ls hl
  have hown : s.vm.findClass RX10 = some m.cls := hown
  have S0 : CallFix p m c cX10_of 3 s [.ref (q 0), .int 0, .int 7].toArray (fz_ws yX10_of cX10_of 3 (some .int)) RX10 := ⟨hx, hb, hml, hown, hts⟩
  have hl : lv_has ls 3 [(0, .ref (q 0)), (1, .int 0), (2, .int 7)] := hl
  refine lv_aload_n hx hb dX10_of_0 rfl (lv_at hl 0 rfl) ?_
  refine va_get (D := D) (ci := 14) (v := .ref (q 1)) (C := RX10) (T := TX10) (N := 22) hx hb hts (fun w9 h9 => fz_m (fin_X10 w9 h9)) hown hK hP 0 rfl rfl 1 (by decide) (hts _ (fz_m fm_462)) (fun _ h9 => h9) rfl dX10_of_1 ?_
  refine lv_bipush (v := 7) hx hb dX10_of_4 (by decide) ?_
  refine lv_iload_n hx hb dX10_of_6 rfl (lv_at hl 1 rfl) ?_
  refine lv_bipush (v := 31) hx hb dX10_of_7 (by decide) ?_
  refine lv_imul hx hb dX10_of_9 ?_
  refine fz_I (y := 0) (by decide) ?_
  refine lv_iadd hx hb dX10_of_10 ?_
  refine fz_I (y := 7) (by decide) ?_
  refine lv_iload_n hx hb dX10_of_11 rfl (lv_at hl 2 rfl) ?_
  refine lv_iadd hx hb dX10_of_12 ?_
  refine fz_I (y := 14) (by decide) ?_
  refine va_iald hx hb hK hP 1 0 rfl rfl (fz_vin (by decide)) dX10_of_13 ?_
  refine fz_I (y := ((f 1) 14)) rfl ?_
  exact fz_iret hx hb hr rfl hlocks hS dX10_of_14 () trivial hP (Nat.le_of_ble_eq_true rfl) (Nat.le_of_ble_eq_true rfl)

set_option maxHeartbeats 4000000 in
set_option maxRecDepth 100000 in
theorem m_rememberRow (l : Launch) (A : Nat → Prop) (D : va_G) (k : Nat → ClassId) (q : Nat → Nat) (f : Nat → Nat → Int32) (pa : Nat → Option Nat) (v : Nat → Int32) (g_v_5 : v 5 = 0) (g_pb_0 : pa 0 = some (q 7))  :
    Met l yX10_rememberRow (fz_ws yX10_rememberRow cX10_rememberRow 3 none) { frames := 24, cells := 0, slots := 0, locals := 320 } (va_Pc [.ref (q 0), .ref (q 1)] (fz_PC A D (fz_tys k) (fz_WM k q f pa v))) (fz_QV D A (fun (u : Nat → Int32) => fz_WM k q (va_up f 7 u) pa (va_up v 5 1)) (fun (_ : Nat → Int32) => True)) 0 0 A := by
  refine fz_of (by decide +kernel) (Nat.le_of_ble_eq_true rfl) ?_
  intro p e s m below meth c hx hb hr hml hown hlocks hts hin hA hP hK hD hG hS ls hl
  have hown : s.vm.findClass RX10 = some m.cls := hown
  have S0 : CallFix p m c cX10_rememberRow 3 s [.ref (q 0), .ref (q 1)].toArray (fz_ws yX10_rememberRow cX10_rememberRow 3 none) RX10 := ⟨hx, hb, hml, hown, hts⟩
  have hl : lv_has ls 3 [(0, .ref (q 0)), (1, .ref (q 1))] := hl
  refine lv_aload_n hx hb dX10_rememberRow_0 rfl (lv_at hl 0 rfl) ?_
  refine va_get (D := D) (ci := 14) (v := .int (v 5)) (C := RX10) (T := TX10) (N := 22) hx hb hts (fun w9 h9 => fz_m (fin_X10 w9 h9)) hown hK hP 0 rfl rfl 5 (by decide) (hts _ (fz_m fm_464)) (fun _ h9 => h9) rfl dX10_rememberRow_1 ?_
  refine fz_I (y := 0) g_v_5 ?_
  refine lv_bipush (v := 8) hx hb dX10_rememberRow_4 (by decide) ?_
  refine lv_icmp_ne (tgt := 52) hx hb dX10_rememberRow_6 (by decide) (fun c_1 => ?_) (fun c_1 => absurd c_1 (by decide))
  refine lv_aload_n hx hb dX10_rememberRow_52 rfl (lv_at hl 1 rfl) ?_
  refine lv_aload_n hx hb dX10_rememberRow_53 rfl (lv_at hl 0 rfl) ?_
  refine va_get (D := D) (ci := 14) (v := .ref (q 4)) (C := RX10) (T := TX10) (N := 22) hx hb hts (fun w9 h9 => fz_m (fin_X10 w9 h9)) hown hK hP 0 rfl rfl 4 (by decide) (hts _ (fz_m fm_465)) (fun _ h9 => h9) rfl dX10_rememberRow_54 ?_
  refine lv_aload_n hx hb dX10_rememberRow_57 rfl (lv_at hl 0 rfl) ?_
  refine va_get (D := D) (ci := 14) (v := .int (v 5)) (C := RX10) (T := TX10) (N := 22) hx hb hts (fun w9 h9 => fz_m (fin_X10 w9 h9)) hown hK hP 0 rfl rfl 5 (by decide) (hts _ (fz_m fm_464)) (fun _ h9 => h9) rfl dX10_rememberRow_58 ?_
  refine fz_I (y := 0) g_v_5 ?_
  refine fz_aldqA hx hb hK hP 4 4 rfl rfl (fz_vin (by decide)) dX10_rememberRow_61 ?_
  refine fz_V (y := .ref (q 7)) (by show va_rf (pa 0) = _; rw [g_pb_0]; rfl) ?_
  refine fz_cSv (As := [.ref (q 1), .ref (q 7)]) (rest := []) S0 (m_copyRow17 l A D k q f pa v ) (fz_cwS 2 hts fm_466 fm_467 fm_468 fm_469 rfl rfl ⟨by decide, by decide, by decide +kernel⟩ ⟨Nat.le_of_ble_eq_true rfl, Nat.le_of_ble_eq_true rfl⟩) (fun _ h9 => h9) (fun a9 h9 => hA a9 (Nat.le_trans hS.1 h9)) hG hS hP hK hD rfl hl.1 rfl (Nat.le_of_ble_eq_true rfl) dX10_rememberRow_62 ⟨Nat.le_of_ble_eq_true rfl, Nat.le_of_ble_eq_true rfl⟩ (fun u_2 H locs hw hz1 hk1 hP hS => ?_)
  have hP : va_P D vwCl (fz_WM k q (va_up f 7 u_2) pa v) H := hP
  have hD : va_D A (fz_WM k q (va_up f 7 u_2) pa v) := fz_Dsame hD rfl
  refine lv_aload_n hx hb dX10_rememberRow_65 rfl (lv_at hl 0 rfl) ?_
  refine lv_dup hx hb dX10_rememberRow_66 rfl ?_
  refine va_get (D := D) (ci := 14) (v := .int (v 5)) (C := RX10) (T := TX10) (N := 22) hx hb hts (fun w9 h9 => fz_m (fin_X10 w9 h9)) hown hK hP 0 rfl rfl 5 (by decide) (hts _ (fz_m fm_464)) (fun _ h9 => h9) rfl dX10_rememberRow_67 ?_
  refine fz_I (y := 0) g_v_5 ?_
  refine lv_iconst (v := 1) hx hb dX10_rememberRow_70 (by decide) ?_
  refine lv_iadd hx hb dX10_rememberRow_71 ?_
  refine fz_I (y := 1) (by decide) ?_
  refine va_put (D := D) (ci := 14) (v := .int 1) (ty := .int) (C := RX10) (T := TX10) (N := 22) hx hb hts (fun w9 h9 => fz_m (fin_X10 w9 h9)) tyX10 tyX10_ok nmX10 hown hK hP hD hS 0 rfl rfl 5 (by decide) (hts _ (fz_m fm_464)) (fun _ h9 => h9) rfl (by decide +kernel) rfl rfl (Nat.le_of_ble_eq_true rfl) dX10_rememberRow_72 (fun H locs hP hD hS => ?_)
  have hP : va_P D vwCl (fz_WM k q (va_up f 7 u_2) pa (va_up v 5 1)) H := hP
  have hD : va_D A (fz_WM k q (va_up f 7 u_2) pa (va_up v 5 1)) := hD
  exact fz_vret hx hb hr hlocks hS dX10_rememberRow_75 u_2 trivial hP (Nat.le_of_ble_eq_true rfl) (Nat.le_of_ble_eq_true rfl)

set_option maxHeartbeats 4000000 in
set_option maxRecDepth 100000 in
theorem m_remember (l : Launch) (A : Nat → Prop) (D : va_G) (k : Nat → ClassId) (q : Nat → Nat) (f : Nat → Nat → Int32) (pa : Nat → Option Nat) (v : Nat → Int32) (g_v_5 : v 5 = 0) (g_pb_0 : pa 0 = some (q 7))  :
    Met l yX10_remember (fz_ws yX10_remember cX10_remember 1 none) { frames := 36, cells := 0, slots := 0, locals := 480 } (va_Pc [.ref (q 0)] (fz_PC A D (fz_tys k) (fz_WM k q f pa v))) (fz_QV D A (fun (u : Nat → Int32) => fz_WM k q (va_up f 7 u) pa (va_up v 5 1)) (fun (_ : Nat → Int32) => True)) 0 0 A := by
  refine fz_of (by decide +kernel) (Nat.le_of_ble_eq_true rfl) ?_
  intro p e s m below meth c hx hb hr hml hown hlocks hts hin hA hP hK hD hG hS ls hl
  have hown : s.vm.findClass RX10 = some m.cls := hown
  have S0 : CallFix p m c cX10_remember 1 s [.ref (q 0)].toArray (fz_ws yX10_remember cX10_remember 1 none) RX10 := ⟨hx, hb, hml, hown, hts⟩
  have hl : lv_has ls 1 [(0, .ref (q 0))] := hl
  refine lv_aload_n hx hb dX10_remember_0 rfl (lv_at hl 0 rfl) ?_
  refine lv_aload_n hx hb dX10_remember_1 rfl (lv_at hl 0 rfl) ?_
  refine va_get (D := D) (ci := 14) (v := .ref (q 1)) (C := RX10) (T := TX10) (N := 22) hx hb hts (fun w9 h9 => fz_m (fin_X10 w9 h9)) hown hK hP 0 rfl rfl 1 (by decide) (hts _ (fz_m fm_462)) (fun _ h9 => h9) rfl dX10_remember_2 ?_
  refine fz_cVv (As := [.ref (q 1)]) (rest := []) S0 (m_rememberRow l A D k q f pa v g_v_5 g_pb_0) (fz_cwV (C := RX10) 1 hts fm_470 fm_471 fm_472 fm_473 fm_469 rfl rfl ⟨by decide, by decide, by decide +kernel⟩ ⟨Nat.le_of_ble_eq_true rfl, Nat.le_of_ble_eq_true rfl⟩) (va_recv hK hP (ci := 14) (q0 := 0) rfl rfl) (fun _ h9 => h9) (fun a9 h9 => hA a9 (Nat.le_trans hS.1 h9)) hG hS hP hK hD rfl hl.1 rfl (Nat.le_of_ble_eq_true rfl) dX10_remember_5 ⟨Nat.le_of_ble_eq_true rfl, Nat.le_of_ble_eq_true rfl⟩ (fun u_1 H locs hw hz1 hk1 hP hS => ?_)
  have hP : va_P D vwCl (fz_WM k q (va_up f 7 u_1) pa (va_up v 5 1)) H := hP
  have hD : va_D A (fz_WM k q (va_up f 7 u_1) pa (va_up v 5 1)) := fz_Dsame hD rfl
  exact fz_vret hx hb hr hlocks hS dX10_remember_8 u_1 trivial hP (Nat.le_of_ble_eq_true rfl) (Nat.le_of_ble_eq_true rfl)

set_option maxHeartbeats 4000000 in
set_option maxRecDepth 100000 in
theorem m_set0_0 (l : Launch) (A : Nat → Prop) (D : va_G) (k : Nat → ClassId) (q : Nat → Nat) (f : Nat → Nat → Int32) (pa : Nat → Option Nat) (v : Nat → Int32) (p2 : Int32)   :
    Met l yX10_set (fz_ws yX10_set cX10_set 4 none) { frames := 0, cells := 0, slots := 0, locals := 0 } (va_Pc [.ref (q 0), .int 0, .int 0, .int p2] (fz_PC A D (fz_tys k) (fz_WM k q f pa v))) (fz_QV D A (fun (_ : Unit) => fz_WM k q (va_up f 1 (upd (f 1) 7 p2)) pa v) (fun (_ : Unit) => True)) 0 0 A := by
  refine fz_of (by decide +kernel) (Nat.le_of_ble_eq_true rfl) ?_
  intro p e s m below meth c hx hb hr hml hown hlocks hts hin hA hP hK hD hG hS ls hl
  have hown : s.vm.findClass RX10 = some m.cls := hown
  have S0 : CallFix p m c cX10_set 4 s [.ref (q 0), .int 0, .int 0, .int p2].toArray (fz_ws yX10_set cX10_set 4 none) RX10 := ⟨hx, hb, hml, hown, hts⟩
  have hl : lv_has ls 4 [(0, .ref (q 0)), (1, .int 0), (2, .int 0), (3, .int p2)] := hl
  refine lv_aload_n hx hb dX10_set_0 rfl (lv_at hl 0 rfl) ?_
  refine va_get (D := D) (ci := 14) (v := .ref (q 1)) (C := RX10) (T := TX10) (N := 22) hx hb hts (fun w9 h9 => fz_m (fin_X10 w9 h9)) hown hK hP 0 rfl rfl 1 (by decide) (hts _ (fz_m fm_462)) (fun _ h9 => h9) rfl dX10_set_1 ?_
  refine lv_bipush (v := 7) hx hb dX10_set_4 (by decide) ?_
  refine lv_iload_n hx hb dX10_set_6 rfl (lv_at hl 1 rfl) ?_
  refine lv_bipush (v := 31) hx hb dX10_set_7 (by decide) ?_
  refine lv_imul hx hb dX10_set_9 ?_
  refine fz_I (y := 0) (by decide) ?_
  refine lv_iadd hx hb dX10_set_10 ?_
  refine fz_I (y := 7) (by decide) ?_
  refine lv_iload_n hx hb dX10_set_11 rfl (lv_at hl 2 rfl) ?_
  refine lv_iadd hx hb dX10_set_12 ?_
  refine fz_I (y := 7) (by decide) ?_
  refine lv_iload_n hx hb dX10_set_13 rfl (lv_at hl 3 rfl) ?_
  refine va_iast hx hb hK hP hD hS 1 0 rfl rfl (fz_vin (by decide)) dX10_set_14 (fun H locs hP hD hS => ?_)
  have hP : va_P D vwCl (fz_WM k q (va_up f 1 (upd (f 1) 7 p2)) pa v) H := hP
  have hD : va_D A (fz_WM k q (va_up f 1 (upd (f 1) 7 p2)) pa v) := hD
  exact fz_vret hx hb hr hlocks hS dX10_set_15 () trivial hP (Nat.le_of_ble_eq_true rfl) (Nat.le_of_ble_eq_true rfl)

set_option maxHeartbeats 4000000 in
set_option maxRecDepth 100000 in
theorem m_set0_1 (l : Launch) (A : Nat → Prop) (D : va_G) (k : Nat → ClassId) (q : Nat → Nat) (f : Nat → Nat → Int32) (pa : Nat → Option Nat) (v : Nat → Int32) (p2 : Int32)   :
    Met l yX10_set (fz_ws yX10_set cX10_set 4 none) { frames := 0, cells := 0, slots := 0, locals := 0 } (va_Pc [.ref (q 0), .int 0, .int 1, .int p2] (fz_PC A D (fz_tys k) (fz_WM k q f pa v))) (fz_QV D A (fun (_ : Unit) => fz_WM k q (va_up f 1 (upd (f 1) 8 p2)) pa v) (fun (_ : Unit) => True)) 0 0 A := by
  refine fz_of (by decide +kernel) (Nat.le_of_ble_eq_true rfl) ?_
  intro p e s m below meth c hx hb hr hml hown hlocks hts hin hA hP hK hD hG hS ls hl
  have hown : s.vm.findClass RX10 = some m.cls := hown
  have S0 : CallFix p m c cX10_set 4 s [.ref (q 0), .int 0, .int 1, .int p2].toArray (fz_ws yX10_set cX10_set 4 none) RX10 := ⟨hx, hb, hml, hown, hts⟩
  have hl : lv_has ls 4 [(0, .ref (q 0)), (1, .int 0), (2, .int 1), (3, .int p2)] := hl
  refine lv_aload_n hx hb dX10_set_0 rfl (lv_at hl 0 rfl) ?_
  refine va_get (D := D) (ci := 14) (v := .ref (q 1)) (C := RX10) (T := TX10) (N := 22) hx hb hts (fun w9 h9 => fz_m (fin_X10 w9 h9)) hown hK hP 0 rfl rfl 1 (by decide) (hts _ (fz_m fm_462)) (fun _ h9 => h9) rfl dX10_set_1 ?_
  refine lv_bipush (v := 7) hx hb dX10_set_4 (by decide) ?_
  refine lv_iload_n hx hb dX10_set_6 rfl (lv_at hl 1 rfl) ?_
  refine lv_bipush (v := 31) hx hb dX10_set_7 (by decide) ?_
  refine lv_imul hx hb dX10_set_9 ?_
  refine fz_I (y := 0) (by decide) ?_
  refine lv_iadd hx hb dX10_set_10 ?_
  refine fz_I (y := 7) (by decide) ?_
  refine lv_iload_n hx hb dX10_set_11 rfl (lv_at hl 2 rfl) ?_
  refine lv_iadd hx hb dX10_set_12 ?_
  refine fz_I (y := 8) (by decide) ?_
  refine lv_iload_n hx hb dX10_set_13 rfl (lv_at hl 3 rfl) ?_
  refine va_iast hx hb hK hP hD hS 1 0 rfl rfl (fz_vin (by decide)) dX10_set_14 (fun H locs hP hD hS => ?_)
  have hP : va_P D vwCl (fz_WM k q (va_up f 1 (upd (f 1) 8 p2)) pa v) H := hP
  have hD : va_D A (fz_WM k q (va_up f 1 (upd (f 1) 8 p2)) pa v) := hD
  exact fz_vret hx hb hr hlocks hS dX10_set_15 () trivial hP (Nat.le_of_ble_eq_true rfl) (Nat.le_of_ble_eq_true rfl)

set_option maxHeartbeats 4000000 in
set_option maxRecDepth 100000 in
theorem m_set0_2 (l : Launch) (A : Nat → Prop) (D : va_G) (k : Nat → ClassId) (q : Nat → Nat) (f : Nat → Nat → Int32) (pa : Nat → Option Nat) (v : Nat → Int32) (p2 : Int32)   :
    Met l yX10_set (fz_ws yX10_set cX10_set 4 none) { frames := 0, cells := 0, slots := 0, locals := 0 } (va_Pc [.ref (q 0), .int 0, .int 2, .int p2] (fz_PC A D (fz_tys k) (fz_WM k q f pa v))) (fz_QV D A (fun (_ : Unit) => fz_WM k q (va_up f 1 (upd (f 1) 9 p2)) pa v) (fun (_ : Unit) => True)) 0 0 A := by
  refine fz_of (by decide +kernel) (Nat.le_of_ble_eq_true rfl) ?_
  intro p e s m below meth c hx hb hr hml hown hlocks hts hin hA hP hK hD hG hS ls hl
  have hown : s.vm.findClass RX10 = some m.cls := hown
  have S0 : CallFix p m c cX10_set 4 s [.ref (q 0), .int 0, .int 2, .int p2].toArray (fz_ws yX10_set cX10_set 4 none) RX10 := ⟨hx, hb, hml, hown, hts⟩
  have hl : lv_has ls 4 [(0, .ref (q 0)), (1, .int 0), (2, .int 2), (3, .int p2)] := hl
  refine lv_aload_n hx hb dX10_set_0 rfl (lv_at hl 0 rfl) ?_
  refine va_get (D := D) (ci := 14) (v := .ref (q 1)) (C := RX10) (T := TX10) (N := 22) hx hb hts (fun w9 h9 => fz_m (fin_X10 w9 h9)) hown hK hP 0 rfl rfl 1 (by decide) (hts _ (fz_m fm_462)) (fun _ h9 => h9) rfl dX10_set_1 ?_
  refine lv_bipush (v := 7) hx hb dX10_set_4 (by decide) ?_
  refine lv_iload_n hx hb dX10_set_6 rfl (lv_at hl 1 rfl) ?_
  refine lv_bipush (v := 31) hx hb dX10_set_7 (by decide) ?_
  refine lv_imul hx hb dX10_set_9 ?_
  refine fz_I (y := 0) (by decide) ?_
  refine lv_iadd hx hb dX10_set_10 ?_
  refine fz_I (y := 7) (by decide) ?_
  refine lv_iload_n hx hb dX10_set_11 rfl (lv_at hl 2 rfl) ?_
  refine lv_iadd hx hb dX10_set_12 ?_
  refine fz_I (y := 9) (by decide) ?_
  refine lv_iload_n hx hb dX10_set_13 rfl (lv_at hl 3 rfl) ?_
  refine va_iast hx hb hK hP hD hS 1 0 rfl rfl (fz_vin (by decide)) dX10_set_14 (fun H locs hP hD hS => ?_)
  have hP : va_P D vwCl (fz_WM k q (va_up f 1 (upd (f 1) 9 p2)) pa v) H := hP
  have hD : va_D A (fz_WM k q (va_up f 1 (upd (f 1) 9 p2)) pa v) := hD
  exact fz_vret hx hb hr hlocks hS dX10_set_15 () trivial hP (Nat.le_of_ble_eq_true rfl) (Nat.le_of_ble_eq_true rfl)

set_option maxHeartbeats 4000000 in
set_option maxRecDepth 100000 in
theorem m_set0_3 (l : Launch) (A : Nat → Prop) (D : va_G) (k : Nat → ClassId) (q : Nat → Nat) (f : Nat → Nat → Int32) (pa : Nat → Option Nat) (v : Nat → Int32) (p2 : Int32)   :
    Met l yX10_set (fz_ws yX10_set cX10_set 4 none) { frames := 0, cells := 0, slots := 0, locals := 0 } (va_Pc [.ref (q 0), .int 0, .int 3, .int p2] (fz_PC A D (fz_tys k) (fz_WM k q f pa v))) (fz_QV D A (fun (_ : Unit) => fz_WM k q (va_up f 1 (upd (f 1) 10 p2)) pa v) (fun (_ : Unit) => True)) 0 0 A := by
  refine fz_of (by decide +kernel) (Nat.le_of_ble_eq_true rfl) ?_
  intro p e s m below meth c hx hb hr hml hown hlocks hts hin hA hP hK hD hG hS ls hl
  have hown : s.vm.findClass RX10 = some m.cls := hown
  have S0 : CallFix p m c cX10_set 4 s [.ref (q 0), .int 0, .int 3, .int p2].toArray (fz_ws yX10_set cX10_set 4 none) RX10 := ⟨hx, hb, hml, hown, hts⟩
  have hl : lv_has ls 4 [(0, .ref (q 0)), (1, .int 0), (2, .int 3), (3, .int p2)] := hl
  refine lv_aload_n hx hb dX10_set_0 rfl (lv_at hl 0 rfl) ?_
  refine va_get (D := D) (ci := 14) (v := .ref (q 1)) (C := RX10) (T := TX10) (N := 22) hx hb hts (fun w9 h9 => fz_m (fin_X10 w9 h9)) hown hK hP 0 rfl rfl 1 (by decide) (hts _ (fz_m fm_462)) (fun _ h9 => h9) rfl dX10_set_1 ?_
  refine lv_bipush (v := 7) hx hb dX10_set_4 (by decide) ?_
  refine lv_iload_n hx hb dX10_set_6 rfl (lv_at hl 1 rfl) ?_
  refine lv_bipush (v := 31) hx hb dX10_set_7 (by decide) ?_
  refine lv_imul hx hb dX10_set_9 ?_
  refine fz_I (y := 0) (by decide) ?_
  refine lv_iadd hx hb dX10_set_10 ?_
  refine fz_I (y := 7) (by decide) ?_
  refine lv_iload_n hx hb dX10_set_11 rfl (lv_at hl 2 rfl) ?_
  refine lv_iadd hx hb dX10_set_12 ?_
  refine fz_I (y := 10) (by decide) ?_
  refine lv_iload_n hx hb dX10_set_13 rfl (lv_at hl 3 rfl) ?_
  refine va_iast hx hb hK hP hD hS 1 0 rfl rfl (fz_vin (by decide)) dX10_set_14 (fun H locs hP hD hS => ?_)
  have hP : va_P D vwCl (fz_WM k q (va_up f 1 (upd (f 1) 10 p2)) pa v) H := hP
  have hD : va_D A (fz_WM k q (va_up f 1 (upd (f 1) 10 p2)) pa v) := hD
  exact fz_vret hx hb hr hlocks hS dX10_set_15 () trivial hP (Nat.le_of_ble_eq_true rfl) (Nat.le_of_ble_eq_true rfl)

set_option maxHeartbeats 4000000 in
set_option maxRecDepth 100000 in
theorem m_set0_4 (l : Launch) (A : Nat → Prop) (D : va_G) (k : Nat → ClassId) (q : Nat → Nat) (f : Nat → Nat → Int32) (pa : Nat → Option Nat) (v : Nat → Int32) (p2 : Int32)   :
    Met l yX10_set (fz_ws yX10_set cX10_set 4 none) { frames := 0, cells := 0, slots := 0, locals := 0 } (va_Pc [.ref (q 0), .int 0, .int 4, .int p2] (fz_PC A D (fz_tys k) (fz_WM k q f pa v))) (fz_QV D A (fun (_ : Unit) => fz_WM k q (va_up f 1 (upd (f 1) 11 p2)) pa v) (fun (_ : Unit) => True)) 0 0 A := by
  refine fz_of (by decide +kernel) (Nat.le_of_ble_eq_true rfl) ?_
  intro p e s m below meth c hx hb hr hml hown hlocks hts hin hA hP hK hD hG hS ls hl
  have hown : s.vm.findClass RX10 = some m.cls := hown
  have S0 : CallFix p m c cX10_set 4 s [.ref (q 0), .int 0, .int 4, .int p2].toArray (fz_ws yX10_set cX10_set 4 none) RX10 := ⟨hx, hb, hml, hown, hts⟩
  have hl : lv_has ls 4 [(0, .ref (q 0)), (1, .int 0), (2, .int 4), (3, .int p2)] := hl
  refine lv_aload_n hx hb dX10_set_0 rfl (lv_at hl 0 rfl) ?_
  refine va_get (D := D) (ci := 14) (v := .ref (q 1)) (C := RX10) (T := TX10) (N := 22) hx hb hts (fun w9 h9 => fz_m (fin_X10 w9 h9)) hown hK hP 0 rfl rfl 1 (by decide) (hts _ (fz_m fm_462)) (fun _ h9 => h9) rfl dX10_set_1 ?_
  refine lv_bipush (v := 7) hx hb dX10_set_4 (by decide) ?_
  refine lv_iload_n hx hb dX10_set_6 rfl (lv_at hl 1 rfl) ?_
  refine lv_bipush (v := 31) hx hb dX10_set_7 (by decide) ?_
  refine lv_imul hx hb dX10_set_9 ?_
  refine fz_I (y := 0) (by decide) ?_
  refine lv_iadd hx hb dX10_set_10 ?_
  refine fz_I (y := 7) (by decide) ?_
  refine lv_iload_n hx hb dX10_set_11 rfl (lv_at hl 2 rfl) ?_
  refine lv_iadd hx hb dX10_set_12 ?_
  refine fz_I (y := 11) (by decide) ?_
  refine lv_iload_n hx hb dX10_set_13 rfl (lv_at hl 3 rfl) ?_
  refine va_iast hx hb hK hP hD hS 1 0 rfl rfl (fz_vin (by decide)) dX10_set_14 (fun H locs hP hD hS => ?_)
  have hP : va_P D vwCl (fz_WM k q (va_up f 1 (upd (f 1) 11 p2)) pa v) H := hP
  have hD : va_D A (fz_WM k q (va_up f 1 (upd (f 1) 11 p2)) pa v) := hD
  exact fz_vret hx hb hr hlocks hS dX10_set_15 () trivial hP (Nat.le_of_ble_eq_true rfl) (Nat.le_of_ble_eq_true rfl)

set_option maxHeartbeats 4000000 in
set_option maxRecDepth 100000 in
theorem m_set0_5 (l : Launch) (A : Nat → Prop) (D : va_G) (k : Nat → ClassId) (q : Nat → Nat) (f : Nat → Nat → Int32) (pa : Nat → Option Nat) (v : Nat → Int32) (p2 : Int32)   :
    Met l yX10_set (fz_ws yX10_set cX10_set 4 none) { frames := 0, cells := 0, slots := 0, locals := 0 } (va_Pc [.ref (q 0), .int 0, .int 5, .int p2] (fz_PC A D (fz_tys k) (fz_WM k q f pa v))) (fz_QV D A (fun (_ : Unit) => fz_WM k q (va_up f 1 (upd (f 1) 12 p2)) pa v) (fun (_ : Unit) => True)) 0 0 A := by
  refine fz_of (by decide +kernel) (Nat.le_of_ble_eq_true rfl) ?_
  intro p e s m below meth c hx hb hr hml hown hlocks hts hin hA hP hK hD hG hS ls hl
  have hown : s.vm.findClass RX10 = some m.cls := hown
  have S0 : CallFix p m c cX10_set 4 s [.ref (q 0), .int 0, .int 5, .int p2].toArray (fz_ws yX10_set cX10_set 4 none) RX10 := ⟨hx, hb, hml, hown, hts⟩
  have hl : lv_has ls 4 [(0, .ref (q 0)), (1, .int 0), (2, .int 5), (3, .int p2)] := hl
  refine lv_aload_n hx hb dX10_set_0 rfl (lv_at hl 0 rfl) ?_
  refine va_get (D := D) (ci := 14) (v := .ref (q 1)) (C := RX10) (T := TX10) (N := 22) hx hb hts (fun w9 h9 => fz_m (fin_X10 w9 h9)) hown hK hP 0 rfl rfl 1 (by decide) (hts _ (fz_m fm_462)) (fun _ h9 => h9) rfl dX10_set_1 ?_
  refine lv_bipush (v := 7) hx hb dX10_set_4 (by decide) ?_
  refine lv_iload_n hx hb dX10_set_6 rfl (lv_at hl 1 rfl) ?_
  refine lv_bipush (v := 31) hx hb dX10_set_7 (by decide) ?_
  refine lv_imul hx hb dX10_set_9 ?_
  refine fz_I (y := 0) (by decide) ?_
  refine lv_iadd hx hb dX10_set_10 ?_
  refine fz_I (y := 7) (by decide) ?_
  refine lv_iload_n hx hb dX10_set_11 rfl (lv_at hl 2 rfl) ?_
  refine lv_iadd hx hb dX10_set_12 ?_
  refine fz_I (y := 12) (by decide) ?_
  refine lv_iload_n hx hb dX10_set_13 rfl (lv_at hl 3 rfl) ?_
  refine va_iast hx hb hK hP hD hS 1 0 rfl rfl (fz_vin (by decide)) dX10_set_14 (fun H locs hP hD hS => ?_)
  have hP : va_P D vwCl (fz_WM k q (va_up f 1 (upd (f 1) 12 p2)) pa v) H := hP
  have hD : va_D A (fz_WM k q (va_up f 1 (upd (f 1) 12 p2)) pa v) := hD
  exact fz_vret hx hb hr hlocks hS dX10_set_15 () trivial hP (Nat.le_of_ble_eq_true rfl) (Nat.le_of_ble_eq_true rfl)

set_option maxHeartbeats 4000000 in
set_option maxRecDepth 100000 in
theorem m_set0_6 (l : Launch) (A : Nat → Prop) (D : va_G) (k : Nat → ClassId) (q : Nat → Nat) (f : Nat → Nat → Int32) (pa : Nat → Option Nat) (v : Nat → Int32) (p2 : Int32)   :
    Met l yX10_set (fz_ws yX10_set cX10_set 4 none) { frames := 0, cells := 0, slots := 0, locals := 0 } (va_Pc [.ref (q 0), .int 0, .int 6, .int p2] (fz_PC A D (fz_tys k) (fz_WM k q f pa v))) (fz_QV D A (fun (_ : Unit) => fz_WM k q (va_up f 1 (upd (f 1) 13 p2)) pa v) (fun (_ : Unit) => True)) 0 0 A := by
  refine fz_of (by decide +kernel) (Nat.le_of_ble_eq_true rfl) ?_
  intro p e s m below meth c hx hb hr hml hown hlocks hts hin hA hP hK hD hG hS ls hl
  have hown : s.vm.findClass RX10 = some m.cls := hown
  have S0 : CallFix p m c cX10_set 4 s [.ref (q 0), .int 0, .int 6, .int p2].toArray (fz_ws yX10_set cX10_set 4 none) RX10 := ⟨hx, hb, hml, hown, hts⟩
  have hl : lv_has ls 4 [(0, .ref (q 0)), (1, .int 0), (2, .int 6), (3, .int p2)] := hl
  refine lv_aload_n hx hb dX10_set_0 rfl (lv_at hl 0 rfl) ?_
  refine va_get (D := D) (ci := 14) (v := .ref (q 1)) (C := RX10) (T := TX10) (N := 22) hx hb hts (fun w9 h9 => fz_m (fin_X10 w9 h9)) hown hK hP 0 rfl rfl 1 (by decide) (hts _ (fz_m fm_462)) (fun _ h9 => h9) rfl dX10_set_1 ?_
  refine lv_bipush (v := 7) hx hb dX10_set_4 (by decide) ?_
  refine lv_iload_n hx hb dX10_set_6 rfl (lv_at hl 1 rfl) ?_
  refine lv_bipush (v := 31) hx hb dX10_set_7 (by decide) ?_
  refine lv_imul hx hb dX10_set_9 ?_
  refine fz_I (y := 0) (by decide) ?_
  refine lv_iadd hx hb dX10_set_10 ?_
  refine fz_I (y := 7) (by decide) ?_
  refine lv_iload_n hx hb dX10_set_11 rfl (lv_at hl 2 rfl) ?_
  refine lv_iadd hx hb dX10_set_12 ?_
  refine fz_I (y := 13) (by decide) ?_
  refine lv_iload_n hx hb dX10_set_13 rfl (lv_at hl 3 rfl) ?_
  refine va_iast hx hb hK hP hD hS 1 0 rfl rfl (fz_vin (by decide)) dX10_set_14 (fun H locs hP hD hS => ?_)
  have hP : va_P D vwCl (fz_WM k q (va_up f 1 (upd (f 1) 13 p2)) pa v) H := hP
  have hD : va_D A (fz_WM k q (va_up f 1 (upd (f 1) 13 p2)) pa v) := hD
  exact fz_vret hx hb hr hlocks hS dX10_set_15 () trivial hP (Nat.le_of_ble_eq_true rfl) (Nat.le_of_ble_eq_true rfl)

set_option maxHeartbeats 4000000 in
set_option maxRecDepth 100000 in
theorem m_set0_7 (l : Launch) (A : Nat → Prop) (D : va_G) (k : Nat → ClassId) (q : Nat → Nat) (f : Nat → Nat → Int32) (pa : Nat → Option Nat) (v : Nat → Int32) (p2 : Int32)   :
    Met l yX10_set (fz_ws yX10_set cX10_set 4 none) { frames := 0, cells := 0, slots := 0, locals := 0 } (va_Pc [.ref (q 0), .int 0, .int 7, .int p2] (fz_PC A D (fz_tys k) (fz_WM k q f pa v))) (fz_QV D A (fun (_ : Unit) => fz_WM k q (va_up f 1 (upd (f 1) 14 p2)) pa v) (fun (_ : Unit) => True)) 0 0 A := by
  refine fz_of (by decide +kernel) (Nat.le_of_ble_eq_true rfl) ?_
  intro p e s m below meth c hx hb hr hml hown hlocks hts hin hA hP hK hD hG hS ls hl
  have hown : s.vm.findClass RX10 = some m.cls := hown
  have S0 : CallFix p m c cX10_set 4 s [.ref (q 0), .int 0, .int 7, .int p2].toArray (fz_ws yX10_set cX10_set 4 none) RX10 := ⟨hx, hb, hml, hown, hts⟩
  have hl : lv_has ls 4 [(0, .ref (q 0)), (1, .int 0), (2, .int 7), (3, .int p2)] := hl
  refine lv_aload_n hx hb dX10_set_0 rfl (lv_at hl 0 rfl) ?_
  refine va_get (D := D) (ci := 14) (v := .ref (q 1)) (C := RX10) (T := TX10) (N := 22) hx hb hts (fun w9 h9 => fz_m (fin_X10 w9 h9)) hown hK hP 0 rfl rfl 1 (by decide) (hts _ (fz_m fm_462)) (fun _ h9 => h9) rfl dX10_set_1 ?_
  refine lv_bipush (v := 7) hx hb dX10_set_4 (by decide) ?_
  refine lv_iload_n hx hb dX10_set_6 rfl (lv_at hl 1 rfl) ?_
  refine lv_bipush (v := 31) hx hb dX10_set_7 (by decide) ?_
  refine lv_imul hx hb dX10_set_9 ?_
  refine fz_I (y := 0) (by decide) ?_
  refine lv_iadd hx hb dX10_set_10 ?_
  refine fz_I (y := 7) (by decide) ?_
  refine lv_iload_n hx hb dX10_set_11 rfl (lv_at hl 2 rfl) ?_
  refine lv_iadd hx hb dX10_set_12 ?_
  refine fz_I (y := 14) (by decide) ?_
  refine lv_iload_n hx hb dX10_set_13 rfl (lv_at hl 3 rfl) ?_
  refine va_iast hx hb hK hP hD hS 1 0 rfl rfl (fz_vin (by decide)) dX10_set_14 (fun H locs hP hD hS => ?_)
  have hP : va_P D vwCl (fz_WM k q (va_up f 1 (upd (f 1) 14 p2)) pa v) H := hP
  have hD : va_D A (fz_WM k q (va_up f 1 (upd (f 1) 14 p2)) pa v) := hD
  exact fz_vret hx hb hr hlocks hS dX10_set_15 () trivial hP (Nat.le_of_ble_eq_true rfl) (Nat.le_of_ble_eq_true rfl)

set_option maxHeartbeats 4000000 in
set_option maxRecDepth 100000 in
theorem m_set0_8 (l : Launch) (A : Nat → Prop) (D : va_G) (k : Nat → ClassId) (q : Nat → Nat) (f : Nat → Nat → Int32) (pa : Nat → Option Nat) (v : Nat → Int32) (p2 : Int32)   :
    Met l yX10_set (fz_ws yX10_set cX10_set 4 none) { frames := 0, cells := 0, slots := 0, locals := 0 } (va_Pc [.ref (q 0), .int 0, .int 8, .int p2] (fz_PC A D (fz_tys k) (fz_WM k q f pa v))) (fz_QV D A (fun (_ : Unit) => fz_WM k q (va_up f 1 (upd (f 1) 15 p2)) pa v) (fun (_ : Unit) => True)) 0 0 A := by
  refine fz_of (by decide +kernel) (Nat.le_of_ble_eq_true rfl) ?_
  intro p e s m below meth c hx hb hr hml hown hlocks hts hin hA hP hK hD hG hS ls hl
  have hown : s.vm.findClass RX10 = some m.cls := hown
  have S0 : CallFix p m c cX10_set 4 s [.ref (q 0), .int 0, .int 8, .int p2].toArray (fz_ws yX10_set cX10_set 4 none) RX10 := ⟨hx, hb, hml, hown, hts⟩
  have hl : lv_has ls 4 [(0, .ref (q 0)), (1, .int 0), (2, .int 8), (3, .int p2)] := hl
  refine lv_aload_n hx hb dX10_set_0 rfl (lv_at hl 0 rfl) ?_
  refine va_get (D := D) (ci := 14) (v := .ref (q 1)) (C := RX10) (T := TX10) (N := 22) hx hb hts (fun w9 h9 => fz_m (fin_X10 w9 h9)) hown hK hP 0 rfl rfl 1 (by decide) (hts _ (fz_m fm_462)) (fun _ h9 => h9) rfl dX10_set_1 ?_
  refine lv_bipush (v := 7) hx hb dX10_set_4 (by decide) ?_
  refine lv_iload_n hx hb dX10_set_6 rfl (lv_at hl 1 rfl) ?_
  refine lv_bipush (v := 31) hx hb dX10_set_7 (by decide) ?_
  refine lv_imul hx hb dX10_set_9 ?_
  refine fz_I (y := 0) (by decide) ?_
  refine lv_iadd hx hb dX10_set_10 ?_
  refine fz_I (y := 7) (by decide) ?_
  refine lv_iload_n hx hb dX10_set_11 rfl (lv_at hl 2 rfl) ?_
  refine lv_iadd hx hb dX10_set_12 ?_
  refine fz_I (y := 15) (by decide) ?_
  refine lv_iload_n hx hb dX10_set_13 rfl (lv_at hl 3 rfl) ?_
  refine va_iast hx hb hK hP hD hS 1 0 rfl rfl (fz_vin (by decide)) dX10_set_14 (fun H locs hP hD hS => ?_)
  have hP : va_P D vwCl (fz_WM k q (va_up f 1 (upd (f 1) 15 p2)) pa v) H := hP
  have hD : va_D A (fz_WM k q (va_up f 1 (upd (f 1) 15 p2)) pa v) := hD
  exact fz_vret hx hb hr hlocks hS dX10_set_15 () trivial hP (Nat.le_of_ble_eq_true rfl) (Nat.le_of_ble_eq_true rfl)

set_option maxHeartbeats 4000000 in
set_option maxRecDepth 100000 in
theorem m_set0_9 (l : Launch) (A : Nat → Prop) (D : va_G) (k : Nat → ClassId) (q : Nat → Nat) (f : Nat → Nat → Int32) (pa : Nat → Option Nat) (v : Nat → Int32) (p2 : Int32)   :
    Met l yX10_set (fz_ws yX10_set cX10_set 4 none) { frames := 0, cells := 0, slots := 0, locals := 0 } (va_Pc [.ref (q 0), .int 0, .int 9, .int p2] (fz_PC A D (fz_tys k) (fz_WM k q f pa v))) (fz_QV D A (fun (_ : Unit) => fz_WM k q (va_up f 1 (upd (f 1) 16 p2)) pa v) (fun (_ : Unit) => True)) 0 0 A := by
  refine fz_of (by decide +kernel) (Nat.le_of_ble_eq_true rfl) ?_
  intro p e s m below meth c hx hb hr hml hown hlocks hts hin hA hP hK hD hG hS ls hl
  have hown : s.vm.findClass RX10 = some m.cls := hown
  have S0 : CallFix p m c cX10_set 4 s [.ref (q 0), .int 0, .int 9, .int p2].toArray (fz_ws yX10_set cX10_set 4 none) RX10 := ⟨hx, hb, hml, hown, hts⟩
  have hl : lv_has ls 4 [(0, .ref (q 0)), (1, .int 0), (2, .int 9), (3, .int p2)] := hl
  refine lv_aload_n hx hb dX10_set_0 rfl (lv_at hl 0 rfl) ?_
  refine va_get (D := D) (ci := 14) (v := .ref (q 1)) (C := RX10) (T := TX10) (N := 22) hx hb hts (fun w9 h9 => fz_m (fin_X10 w9 h9)) hown hK hP 0 rfl rfl 1 (by decide) (hts _ (fz_m fm_462)) (fun _ h9 => h9) rfl dX10_set_1 ?_
  refine lv_bipush (v := 7) hx hb dX10_set_4 (by decide) ?_
  refine lv_iload_n hx hb dX10_set_6 rfl (lv_at hl 1 rfl) ?_
  refine lv_bipush (v := 31) hx hb dX10_set_7 (by decide) ?_
  refine lv_imul hx hb dX10_set_9 ?_
  refine fz_I (y := 0) (by decide) ?_
  refine lv_iadd hx hb dX10_set_10 ?_
  refine fz_I (y := 7) (by decide) ?_
  refine lv_iload_n hx hb dX10_set_11 rfl (lv_at hl 2 rfl) ?_
  refine lv_iadd hx hb dX10_set_12 ?_
  refine fz_I (y := 16) (by decide) ?_
  refine lv_iload_n hx hb dX10_set_13 rfl (lv_at hl 3 rfl) ?_
  refine va_iast hx hb hK hP hD hS 1 0 rfl rfl (fz_vin (by decide)) dX10_set_14 (fun H locs hP hD hS => ?_)
  have hP : va_P D vwCl (fz_WM k q (va_up f 1 (upd (f 1) 16 p2)) pa v) H := hP
  have hD : va_D A (fz_WM k q (va_up f 1 (upd (f 1) 16 p2)) pa v) := hD
  exact fz_vret hx hb hr hlocks hS dX10_set_15 () trivial hP (Nat.le_of_ble_eq_true rfl) (Nat.le_of_ble_eq_true rfl)

set_option maxHeartbeats 4000000 in
set_option maxRecDepth 100000 in
theorem m_set0_10 (l : Launch) (A : Nat → Prop) (D : va_G) (k : Nat → ClassId) (q : Nat → Nat) (f : Nat → Nat → Int32) (pa : Nat → Option Nat) (v : Nat → Int32) (p2 : Int32)   :
    Met l yX10_set (fz_ws yX10_set cX10_set 4 none) { frames := 0, cells := 0, slots := 0, locals := 0 } (va_Pc [.ref (q 0), .int 0, .int 10, .int p2] (fz_PC A D (fz_tys k) (fz_WM k q f pa v))) (fz_QV D A (fun (_ : Unit) => fz_WM k q (va_up f 1 (upd (f 1) 17 p2)) pa v) (fun (_ : Unit) => True)) 0 0 A := by
  refine fz_of (by decide +kernel) (Nat.le_of_ble_eq_true rfl) ?_
  intro p e s m below meth c hx hb hr hml hown hlocks hts hin hA hP hK hD hG hS ls hl
  have hown : s.vm.findClass RX10 = some m.cls := hown
  have S0 : CallFix p m c cX10_set 4 s [.ref (q 0), .int 0, .int 10, .int p2].toArray (fz_ws yX10_set cX10_set 4 none) RX10 := ⟨hx, hb, hml, hown, hts⟩
  have hl : lv_has ls 4 [(0, .ref (q 0)), (1, .int 0), (2, .int 10), (3, .int p2)] := hl
  refine lv_aload_n hx hb dX10_set_0 rfl (lv_at hl 0 rfl) ?_
  refine va_get (D := D) (ci := 14) (v := .ref (q 1)) (C := RX10) (T := TX10) (N := 22) hx hb hts (fun w9 h9 => fz_m (fin_X10 w9 h9)) hown hK hP 0 rfl rfl 1 (by decide) (hts _ (fz_m fm_462)) (fun _ h9 => h9) rfl dX10_set_1 ?_
  refine lv_bipush (v := 7) hx hb dX10_set_4 (by decide) ?_
  refine lv_iload_n hx hb dX10_set_6 rfl (lv_at hl 1 rfl) ?_
  refine lv_bipush (v := 31) hx hb dX10_set_7 (by decide) ?_
  refine lv_imul hx hb dX10_set_9 ?_
  refine fz_I (y := 0) (by decide) ?_
  refine lv_iadd hx hb dX10_set_10 ?_
  refine fz_I (y := 7) (by decide) ?_
  refine lv_iload_n hx hb dX10_set_11 rfl (lv_at hl 2 rfl) ?_
  refine lv_iadd hx hb dX10_set_12 ?_
  refine fz_I (y := 17) (by decide) ?_
  refine lv_iload_n hx hb dX10_set_13 rfl (lv_at hl 3 rfl) ?_
  refine va_iast hx hb hK hP hD hS 1 0 rfl rfl (fz_vin (by decide)) dX10_set_14 (fun H locs hP hD hS => ?_)
  have hP : va_P D vwCl (fz_WM k q (va_up f 1 (upd (f 1) 17 p2)) pa v) H := hP
  have hD : va_D A (fz_WM k q (va_up f 1 (upd (f 1) 17 p2)) pa v) := hD
  exact fz_vret hx hb hr hlocks hS dX10_set_15 () trivial hP (Nat.le_of_ble_eq_true rfl) (Nat.le_of_ble_eq_true rfl)

set_option maxHeartbeats 4000000 in
set_option maxRecDepth 100000 in
theorem m_set1_0 (l : Launch) (A : Nat → Prop) (D : va_G) (k : Nat → ClassId) (q : Nat → Nat) (f : Nat → Nat → Int32) (pa : Nat → Option Nat) (v : Nat → Int32) (p2 : Int32)   :
    Met l yX10_set (fz_ws yX10_set cX10_set 4 none) { frames := 0, cells := 0, slots := 0, locals := 0 } (va_Pc [.ref (q 0), .int 1, .int 0, .int p2] (fz_PC A D (fz_tys k) (fz_WM k q f pa v))) (fz_QV D A (fun (_ : Unit) => fz_WM k q (va_up f 1 (upd (f 1) 38 p2)) pa v) (fun (_ : Unit) => True)) 0 0 A := by
  refine fz_of (by decide +kernel) (Nat.le_of_ble_eq_true rfl) ?_
  intro p e s m below meth c hx hb hr hml hown hlocks hts hin hA hP hK hD hG hS ls hl
  have hown : s.vm.findClass RX10 = some m.cls := hown
  have S0 : CallFix p m c cX10_set 4 s [.ref (q 0), .int 1, .int 0, .int p2].toArray (fz_ws yX10_set cX10_set 4 none) RX10 := ⟨hx, hb, hml, hown, hts⟩
  have hl : lv_has ls 4 [(0, .ref (q 0)), (1, .int 1), (2, .int 0), (3, .int p2)] := hl
  refine lv_aload_n hx hb dX10_set_0 rfl (lv_at hl 0 rfl) ?_
  refine va_get (D := D) (ci := 14) (v := .ref (q 1)) (C := RX10) (T := TX10) (N := 22) hx hb hts (fun w9 h9 => fz_m (fin_X10 w9 h9)) hown hK hP 0 rfl rfl 1 (by decide) (hts _ (fz_m fm_462)) (fun _ h9 => h9) rfl dX10_set_1 ?_
  refine lv_bipush (v := 7) hx hb dX10_set_4 (by decide) ?_
  refine lv_iload_n hx hb dX10_set_6 rfl (lv_at hl 1 rfl) ?_
  refine lv_bipush (v := 31) hx hb dX10_set_7 (by decide) ?_
  refine lv_imul hx hb dX10_set_9 ?_
  refine fz_I (y := 31) (by decide) ?_
  refine lv_iadd hx hb dX10_set_10 ?_
  refine fz_I (y := 38) (by decide) ?_
  refine lv_iload_n hx hb dX10_set_11 rfl (lv_at hl 2 rfl) ?_
  refine lv_iadd hx hb dX10_set_12 ?_
  refine fz_I (y := 38) (by decide) ?_
  refine lv_iload_n hx hb dX10_set_13 rfl (lv_at hl 3 rfl) ?_
  refine va_iast hx hb hK hP hD hS 1 0 rfl rfl (fz_vin (by decide)) dX10_set_14 (fun H locs hP hD hS => ?_)
  have hP : va_P D vwCl (fz_WM k q (va_up f 1 (upd (f 1) 38 p2)) pa v) H := hP
  have hD : va_D A (fz_WM k q (va_up f 1 (upd (f 1) 38 p2)) pa v) := hD
  exact fz_vret hx hb hr hlocks hS dX10_set_15 () trivial hP (Nat.le_of_ble_eq_true rfl) (Nat.le_of_ble_eq_true rfl)

set_option maxHeartbeats 4000000 in
set_option maxRecDepth 100000 in
theorem m_set1_1 (l : Launch) (A : Nat → Prop) (D : va_G) (k : Nat → ClassId) (q : Nat → Nat) (f : Nat → Nat → Int32) (pa : Nat → Option Nat) (v : Nat → Int32) (p2 : Int32)   :
    Met l yX10_set (fz_ws yX10_set cX10_set 4 none) { frames := 0, cells := 0, slots := 0, locals := 0 } (va_Pc [.ref (q 0), .int 1, .int 1, .int p2] (fz_PC A D (fz_tys k) (fz_WM k q f pa v))) (fz_QV D A (fun (_ : Unit) => fz_WM k q (va_up f 1 (upd (f 1) 39 p2)) pa v) (fun (_ : Unit) => True)) 0 0 A := by
  refine fz_of (by decide +kernel) (Nat.le_of_ble_eq_true rfl) ?_
  intro p e s m below meth c hx hb hr hml hown hlocks hts hin hA hP hK hD hG hS ls hl
  have hown : s.vm.findClass RX10 = some m.cls := hown
  have S0 : CallFix p m c cX10_set 4 s [.ref (q 0), .int 1, .int 1, .int p2].toArray (fz_ws yX10_set cX10_set 4 none) RX10 := ⟨hx, hb, hml, hown, hts⟩
  have hl : lv_has ls 4 [(0, .ref (q 0)), (1, .int 1), (2, .int 1), (3, .int p2)] := hl
  refine lv_aload_n hx hb dX10_set_0 rfl (lv_at hl 0 rfl) ?_
  refine va_get (D := D) (ci := 14) (v := .ref (q 1)) (C := RX10) (T := TX10) (N := 22) hx hb hts (fun w9 h9 => fz_m (fin_X10 w9 h9)) hown hK hP 0 rfl rfl 1 (by decide) (hts _ (fz_m fm_462)) (fun _ h9 => h9) rfl dX10_set_1 ?_
  refine lv_bipush (v := 7) hx hb dX10_set_4 (by decide) ?_
  refine lv_iload_n hx hb dX10_set_6 rfl (lv_at hl 1 rfl) ?_
  refine lv_bipush (v := 31) hx hb dX10_set_7 (by decide) ?_
  refine lv_imul hx hb dX10_set_9 ?_
  refine fz_I (y := 31) (by decide) ?_
  refine lv_iadd hx hb dX10_set_10 ?_
  refine fz_I (y := 38) (by decide) ?_
  refine lv_iload_n hx hb dX10_set_11 rfl (lv_at hl 2 rfl) ?_
  refine lv_iadd hx hb dX10_set_12 ?_
  refine fz_I (y := 39) (by decide) ?_
  refine lv_iload_n hx hb dX10_set_13 rfl (lv_at hl 3 rfl) ?_
  refine va_iast hx hb hK hP hD hS 1 0 rfl rfl (fz_vin (by decide)) dX10_set_14 (fun H locs hP hD hS => ?_)
  have hP : va_P D vwCl (fz_WM k q (va_up f 1 (upd (f 1) 39 p2)) pa v) H := hP
  have hD : va_D A (fz_WM k q (va_up f 1 (upd (f 1) 39 p2)) pa v) := hD
  exact fz_vret hx hb hr hlocks hS dX10_set_15 () trivial hP (Nat.le_of_ble_eq_true rfl) (Nat.le_of_ble_eq_true rfl)

set_option maxHeartbeats 4000000 in
set_option maxRecDepth 100000 in
theorem m_set1_2 (l : Launch) (A : Nat → Prop) (D : va_G) (k : Nat → ClassId) (q : Nat → Nat) (f : Nat → Nat → Int32) (pa : Nat → Option Nat) (v : Nat → Int32) (p2 : Int32)   :
    Met l yX10_set (fz_ws yX10_set cX10_set 4 none) { frames := 0, cells := 0, slots := 0, locals := 0 } (va_Pc [.ref (q 0), .int 1, .int 2, .int p2] (fz_PC A D (fz_tys k) (fz_WM k q f pa v))) (fz_QV D A (fun (_ : Unit) => fz_WM k q (va_up f 1 (upd (f 1) 40 p2)) pa v) (fun (_ : Unit) => True)) 0 0 A := by
  refine fz_of (by decide +kernel) (Nat.le_of_ble_eq_true rfl) ?_
  intro p e s m below meth c hx hb hr hml hown hlocks hts hin hA hP hK hD hG hS ls hl
  have hown : s.vm.findClass RX10 = some m.cls := hown
  have S0 : CallFix p m c cX10_set 4 s [.ref (q 0), .int 1, .int 2, .int p2].toArray (fz_ws yX10_set cX10_set 4 none) RX10 := ⟨hx, hb, hml, hown, hts⟩
  have hl : lv_has ls 4 [(0, .ref (q 0)), (1, .int 1), (2, .int 2), (3, .int p2)] := hl
  refine lv_aload_n hx hb dX10_set_0 rfl (lv_at hl 0 rfl) ?_
  refine va_get (D := D) (ci := 14) (v := .ref (q 1)) (C := RX10) (T := TX10) (N := 22) hx hb hts (fun w9 h9 => fz_m (fin_X10 w9 h9)) hown hK hP 0 rfl rfl 1 (by decide) (hts _ (fz_m fm_462)) (fun _ h9 => h9) rfl dX10_set_1 ?_
  refine lv_bipush (v := 7) hx hb dX10_set_4 (by decide) ?_
  refine lv_iload_n hx hb dX10_set_6 rfl (lv_at hl 1 rfl) ?_
  refine lv_bipush (v := 31) hx hb dX10_set_7 (by decide) ?_
  refine lv_imul hx hb dX10_set_9 ?_
  refine fz_I (y := 31) (by decide) ?_
  refine lv_iadd hx hb dX10_set_10 ?_
  refine fz_I (y := 38) (by decide) ?_
  refine lv_iload_n hx hb dX10_set_11 rfl (lv_at hl 2 rfl) ?_
  refine lv_iadd hx hb dX10_set_12 ?_
  refine fz_I (y := 40) (by decide) ?_
  refine lv_iload_n hx hb dX10_set_13 rfl (lv_at hl 3 rfl) ?_
  refine va_iast hx hb hK hP hD hS 1 0 rfl rfl (fz_vin (by decide)) dX10_set_14 (fun H locs hP hD hS => ?_)
  have hP : va_P D vwCl (fz_WM k q (va_up f 1 (upd (f 1) 40 p2)) pa v) H := hP
  have hD : va_D A (fz_WM k q (va_up f 1 (upd (f 1) 40 p2)) pa v) := hD
  exact fz_vret hx hb hr hlocks hS dX10_set_15 () trivial hP (Nat.le_of_ble_eq_true rfl) (Nat.le_of_ble_eq_true rfl)

set_option maxHeartbeats 4000000 in
set_option maxRecDepth 100000 in
theorem m_set1_3 (l : Launch) (A : Nat → Prop) (D : va_G) (k : Nat → ClassId) (q : Nat → Nat) (f : Nat → Nat → Int32) (pa : Nat → Option Nat) (v : Nat → Int32) (p2 : Int32)   :
    Met l yX10_set (fz_ws yX10_set cX10_set 4 none) { frames := 0, cells := 0, slots := 0, locals := 0 } (va_Pc [.ref (q 0), .int 1, .int 3, .int p2] (fz_PC A D (fz_tys k) (fz_WM k q f pa v))) (fz_QV D A (fun (_ : Unit) => fz_WM k q (va_up f 1 (upd (f 1) 41 p2)) pa v) (fun (_ : Unit) => True)) 0 0 A := by
  refine fz_of (by decide +kernel) (Nat.le_of_ble_eq_true rfl) ?_
  intro p e s m below meth c hx hb hr hml hown hlocks hts hin hA hP hK hD hG hS ls hl
  have hown : s.vm.findClass RX10 = some m.cls := hown
  have S0 : CallFix p m c cX10_set 4 s [.ref (q 0), .int 1, .int 3, .int p2].toArray (fz_ws yX10_set cX10_set 4 none) RX10 := ⟨hx, hb, hml, hown, hts⟩
  have hl : lv_has ls 4 [(0, .ref (q 0)), (1, .int 1), (2, .int 3), (3, .int p2)] := hl
  refine lv_aload_n hx hb dX10_set_0 rfl (lv_at hl 0 rfl) ?_
  refine va_get (D := D) (ci := 14) (v := .ref (q 1)) (C := RX10) (T := TX10) (N := 22) hx hb hts (fun w9 h9 => fz_m (fin_X10 w9 h9)) hown hK hP 0 rfl rfl 1 (by decide) (hts _ (fz_m fm_462)) (fun _ h9 => h9) rfl dX10_set_1 ?_
  refine lv_bipush (v := 7) hx hb dX10_set_4 (by decide) ?_
  refine lv_iload_n hx hb dX10_set_6 rfl (lv_at hl 1 rfl) ?_
  refine lv_bipush (v := 31) hx hb dX10_set_7 (by decide) ?_
  refine lv_imul hx hb dX10_set_9 ?_
  refine fz_I (y := 31) (by decide) ?_
  refine lv_iadd hx hb dX10_set_10 ?_
  refine fz_I (y := 38) (by decide) ?_
  refine lv_iload_n hx hb dX10_set_11 rfl (lv_at hl 2 rfl) ?_
  refine lv_iadd hx hb dX10_set_12 ?_
  refine fz_I (y := 41) (by decide) ?_
  refine lv_iload_n hx hb dX10_set_13 rfl (lv_at hl 3 rfl) ?_
  refine va_iast hx hb hK hP hD hS 1 0 rfl rfl (fz_vin (by decide)) dX10_set_14 (fun H locs hP hD hS => ?_)
  have hP : va_P D vwCl (fz_WM k q (va_up f 1 (upd (f 1) 41 p2)) pa v) H := hP
  have hD : va_D A (fz_WM k q (va_up f 1 (upd (f 1) 41 p2)) pa v) := hD
  exact fz_vret hx hb hr hlocks hS dX10_set_15 () trivial hP (Nat.le_of_ble_eq_true rfl) (Nat.le_of_ble_eq_true rfl)

set_option maxHeartbeats 4000000 in
set_option maxRecDepth 100000 in
theorem m_set1_4 (l : Launch) (A : Nat → Prop) (D : va_G) (k : Nat → ClassId) (q : Nat → Nat) (f : Nat → Nat → Int32) (pa : Nat → Option Nat) (v : Nat → Int32) (p2 : Int32)   :
    Met l yX10_set (fz_ws yX10_set cX10_set 4 none) { frames := 0, cells := 0, slots := 0, locals := 0 } (va_Pc [.ref (q 0), .int 1, .int 4, .int p2] (fz_PC A D (fz_tys k) (fz_WM k q f pa v))) (fz_QV D A (fun (_ : Unit) => fz_WM k q (va_up f 1 (upd (f 1) 42 p2)) pa v) (fun (_ : Unit) => True)) 0 0 A := by
  refine fz_of (by decide +kernel) (Nat.le_of_ble_eq_true rfl) ?_
  intro p e s m below meth c hx hb hr hml hown hlocks hts hin hA hP hK hD hG hS ls hl
  have hown : s.vm.findClass RX10 = some m.cls := hown
  have S0 : CallFix p m c cX10_set 4 s [.ref (q 0), .int 1, .int 4, .int p2].toArray (fz_ws yX10_set cX10_set 4 none) RX10 := ⟨hx, hb, hml, hown, hts⟩
  have hl : lv_has ls 4 [(0, .ref (q 0)), (1, .int 1), (2, .int 4), (3, .int p2)] := hl
  refine lv_aload_n hx hb dX10_set_0 rfl (lv_at hl 0 rfl) ?_
  refine va_get (D := D) (ci := 14) (v := .ref (q 1)) (C := RX10) (T := TX10) (N := 22) hx hb hts (fun w9 h9 => fz_m (fin_X10 w9 h9)) hown hK hP 0 rfl rfl 1 (by decide) (hts _ (fz_m fm_462)) (fun _ h9 => h9) rfl dX10_set_1 ?_
  refine lv_bipush (v := 7) hx hb dX10_set_4 (by decide) ?_
  refine lv_iload_n hx hb dX10_set_6 rfl (lv_at hl 1 rfl) ?_
  refine lv_bipush (v := 31) hx hb dX10_set_7 (by decide) ?_
  refine lv_imul hx hb dX10_set_9 ?_
  refine fz_I (y := 31) (by decide) ?_
  refine lv_iadd hx hb dX10_set_10 ?_
  refine fz_I (y := 38) (by decide) ?_
  refine lv_iload_n hx hb dX10_set_11 rfl (lv_at hl 2 rfl) ?_
  refine lv_iadd hx hb dX10_set_12 ?_
  refine fz_I (y := 42) (by decide) ?_
  refine lv_iload_n hx hb dX10_set_13 rfl (lv_at hl 3 rfl) ?_
  refine va_iast hx hb hK hP hD hS 1 0 rfl rfl (fz_vin (by decide)) dX10_set_14 (fun H locs hP hD hS => ?_)
  have hP : va_P D vwCl (fz_WM k q (va_up f 1 (upd (f 1) 42 p2)) pa v) H := hP
  have hD : va_D A (fz_WM k q (va_up f 1 (upd (f 1) 42 p2)) pa v) := hD
  exact fz_vret hx hb hr hlocks hS dX10_set_15 () trivial hP (Nat.le_of_ble_eq_true rfl) (Nat.le_of_ble_eq_true rfl)

set_option maxHeartbeats 4000000 in
set_option maxRecDepth 100000 in
theorem m_set1_5 (l : Launch) (A : Nat → Prop) (D : va_G) (k : Nat → ClassId) (q : Nat → Nat) (f : Nat → Nat → Int32) (pa : Nat → Option Nat) (v : Nat → Int32) (p2 : Int32)   :
    Met l yX10_set (fz_ws yX10_set cX10_set 4 none) { frames := 0, cells := 0, slots := 0, locals := 0 } (va_Pc [.ref (q 0), .int 1, .int 5, .int p2] (fz_PC A D (fz_tys k) (fz_WM k q f pa v))) (fz_QV D A (fun (_ : Unit) => fz_WM k q (va_up f 1 (upd (f 1) 43 p2)) pa v) (fun (_ : Unit) => True)) 0 0 A := by
  refine fz_of (by decide +kernel) (Nat.le_of_ble_eq_true rfl) ?_
  intro p e s m below meth c hx hb hr hml hown hlocks hts hin hA hP hK hD hG hS ls hl
  have hown : s.vm.findClass RX10 = some m.cls := hown
  have S0 : CallFix p m c cX10_set 4 s [.ref (q 0), .int 1, .int 5, .int p2].toArray (fz_ws yX10_set cX10_set 4 none) RX10 := ⟨hx, hb, hml, hown, hts⟩
  have hl : lv_has ls 4 [(0, .ref (q 0)), (1, .int 1), (2, .int 5), (3, .int p2)] := hl
  refine lv_aload_n hx hb dX10_set_0 rfl (lv_at hl 0 rfl) ?_
  refine va_get (D := D) (ci := 14) (v := .ref (q 1)) (C := RX10) (T := TX10) (N := 22) hx hb hts (fun w9 h9 => fz_m (fin_X10 w9 h9)) hown hK hP 0 rfl rfl 1 (by decide) (hts _ (fz_m fm_462)) (fun _ h9 => h9) rfl dX10_set_1 ?_
  refine lv_bipush (v := 7) hx hb dX10_set_4 (by decide) ?_
  refine lv_iload_n hx hb dX10_set_6 rfl (lv_at hl 1 rfl) ?_
  refine lv_bipush (v := 31) hx hb dX10_set_7 (by decide) ?_
  refine lv_imul hx hb dX10_set_9 ?_
  refine fz_I (y := 31) (by decide) ?_
  refine lv_iadd hx hb dX10_set_10 ?_
  refine fz_I (y := 38) (by decide) ?_
  refine lv_iload_n hx hb dX10_set_11 rfl (lv_at hl 2 rfl) ?_
  refine lv_iadd hx hb dX10_set_12 ?_
  refine fz_I (y := 43) (by decide) ?_
  refine lv_iload_n hx hb dX10_set_13 rfl (lv_at hl 3 rfl) ?_
  refine va_iast hx hb hK hP hD hS 1 0 rfl rfl (fz_vin (by decide)) dX10_set_14 (fun H locs hP hD hS => ?_)
  have hP : va_P D vwCl (fz_WM k q (va_up f 1 (upd (f 1) 43 p2)) pa v) H := hP
  have hD : va_D A (fz_WM k q (va_up f 1 (upd (f 1) 43 p2)) pa v) := hD
  exact fz_vret hx hb hr hlocks hS dX10_set_15 () trivial hP (Nat.le_of_ble_eq_true rfl) (Nat.le_of_ble_eq_true rfl)

set_option maxHeartbeats 4000000 in
set_option maxRecDepth 100000 in
theorem m_set1_6 (l : Launch) (A : Nat → Prop) (D : va_G) (k : Nat → ClassId) (q : Nat → Nat) (f : Nat → Nat → Int32) (pa : Nat → Option Nat) (v : Nat → Int32) (p2 : Int32)   :
    Met l yX10_set (fz_ws yX10_set cX10_set 4 none) { frames := 0, cells := 0, slots := 0, locals := 0 } (va_Pc [.ref (q 0), .int 1, .int 6, .int p2] (fz_PC A D (fz_tys k) (fz_WM k q f pa v))) (fz_QV D A (fun (_ : Unit) => fz_WM k q (va_up f 1 (upd (f 1) 44 p2)) pa v) (fun (_ : Unit) => True)) 0 0 A := by
  refine fz_of (by decide +kernel) (Nat.le_of_ble_eq_true rfl) ?_
  intro p e s m below meth c hx hb hr hml hown hlocks hts hin hA hP hK hD hG hS ls hl
  have hown : s.vm.findClass RX10 = some m.cls := hown
  have S0 : CallFix p m c cX10_set 4 s [.ref (q 0), .int 1, .int 6, .int p2].toArray (fz_ws yX10_set cX10_set 4 none) RX10 := ⟨hx, hb, hml, hown, hts⟩
  have hl : lv_has ls 4 [(0, .ref (q 0)), (1, .int 1), (2, .int 6), (3, .int p2)] := hl
  refine lv_aload_n hx hb dX10_set_0 rfl (lv_at hl 0 rfl) ?_
  refine va_get (D := D) (ci := 14) (v := .ref (q 1)) (C := RX10) (T := TX10) (N := 22) hx hb hts (fun w9 h9 => fz_m (fin_X10 w9 h9)) hown hK hP 0 rfl rfl 1 (by decide) (hts _ (fz_m fm_462)) (fun _ h9 => h9) rfl dX10_set_1 ?_
  refine lv_bipush (v := 7) hx hb dX10_set_4 (by decide) ?_
  refine lv_iload_n hx hb dX10_set_6 rfl (lv_at hl 1 rfl) ?_
  refine lv_bipush (v := 31) hx hb dX10_set_7 (by decide) ?_
  refine lv_imul hx hb dX10_set_9 ?_
  refine fz_I (y := 31) (by decide) ?_
  refine lv_iadd hx hb dX10_set_10 ?_
  refine fz_I (y := 38) (by decide) ?_
  refine lv_iload_n hx hb dX10_set_11 rfl (lv_at hl 2 rfl) ?_
  refine lv_iadd hx hb dX10_set_12 ?_
  refine fz_I (y := 44) (by decide) ?_
  refine lv_iload_n hx hb dX10_set_13 rfl (lv_at hl 3 rfl) ?_
  refine va_iast hx hb hK hP hD hS 1 0 rfl rfl (fz_vin (by decide)) dX10_set_14 (fun H locs hP hD hS => ?_)
  have hP : va_P D vwCl (fz_WM k q (va_up f 1 (upd (f 1) 44 p2)) pa v) H := hP
  have hD : va_D A (fz_WM k q (va_up f 1 (upd (f 1) 44 p2)) pa v) := hD
  exact fz_vret hx hb hr hlocks hS dX10_set_15 () trivial hP (Nat.le_of_ble_eq_true rfl) (Nat.le_of_ble_eq_true rfl)

set_option maxHeartbeats 4000000 in
set_option maxRecDepth 100000 in
theorem m_set1_8 (l : Launch) (A : Nat → Prop) (D : va_G) (k : Nat → ClassId) (q : Nat → Nat) (f : Nat → Nat → Int32) (pa : Nat → Option Nat) (v : Nat → Int32) (p2 : Int32)   :
    Met l yX10_set (fz_ws yX10_set cX10_set 4 none) { frames := 0, cells := 0, slots := 0, locals := 0 } (va_Pc [.ref (q 0), .int 1, .int 8, .int p2] (fz_PC A D (fz_tys k) (fz_WM k q f pa v))) (fz_QV D A (fun (_ : Unit) => fz_WM k q (va_up f 1 (upd (f 1) 46 p2)) pa v) (fun (_ : Unit) => True)) 0 0 A := by
  refine fz_of (by decide +kernel) (Nat.le_of_ble_eq_true rfl) ?_
  intro p e s m below meth c hx hb hr hml hown hlocks hts hin hA hP hK hD hG hS ls hl
  have hown : s.vm.findClass RX10 = some m.cls := hown
  have S0 : CallFix p m c cX10_set 4 s [.ref (q 0), .int 1, .int 8, .int p2].toArray (fz_ws yX10_set cX10_set 4 none) RX10 := ⟨hx, hb, hml, hown, hts⟩
  have hl : lv_has ls 4 [(0, .ref (q 0)), (1, .int 1), (2, .int 8), (3, .int p2)] := hl
  refine lv_aload_n hx hb dX10_set_0 rfl (lv_at hl 0 rfl) ?_
  refine va_get (D := D) (ci := 14) (v := .ref (q 1)) (C := RX10) (T := TX10) (N := 22) hx hb hts (fun w9 h9 => fz_m (fin_X10 w9 h9)) hown hK hP 0 rfl rfl 1 (by decide) (hts _ (fz_m fm_462)) (fun _ h9 => h9) rfl dX10_set_1 ?_
  refine lv_bipush (v := 7) hx hb dX10_set_4 (by decide) ?_
  refine lv_iload_n hx hb dX10_set_6 rfl (lv_at hl 1 rfl) ?_
  refine lv_bipush (v := 31) hx hb dX10_set_7 (by decide) ?_
  refine lv_imul hx hb dX10_set_9 ?_
  refine fz_I (y := 31) (by decide) ?_
  refine lv_iadd hx hb dX10_set_10 ?_
  refine fz_I (y := 38) (by decide) ?_
  refine lv_iload_n hx hb dX10_set_11 rfl (lv_at hl 2 rfl) ?_
  refine lv_iadd hx hb dX10_set_12 ?_
  refine fz_I (y := 46) (by decide) ?_
  refine lv_iload_n hx hb dX10_set_13 rfl (lv_at hl 3 rfl) ?_
  refine va_iast hx hb hK hP hD hS 1 0 rfl rfl (fz_vin (by decide)) dX10_set_14 (fun H locs hP hD hS => ?_)
  have hP : va_P D vwCl (fz_WM k q (va_up f 1 (upd (f 1) 46 p2)) pa v) H := hP
  have hD : va_D A (fz_WM k q (va_up f 1 (upd (f 1) 46 p2)) pa v) := hD
  exact fz_vret hx hb hr hlocks hS dX10_set_15 () trivial hP (Nat.le_of_ble_eq_true rfl) (Nat.le_of_ble_eq_true rfl)

set_option maxHeartbeats 4000000 in
set_option maxRecDepth 100000 in
theorem m_set1_9 (l : Launch) (A : Nat → Prop) (D : va_G) (k : Nat → ClassId) (q : Nat → Nat) (f : Nat → Nat → Int32) (pa : Nat → Option Nat) (v : Nat → Int32) (p2 : Int32)   :
    Met l yX10_set (fz_ws yX10_set cX10_set 4 none) { frames := 0, cells := 0, slots := 0, locals := 0 } (va_Pc [.ref (q 0), .int 1, .int 9, .int p2] (fz_PC A D (fz_tys k) (fz_WM k q f pa v))) (fz_QV D A (fun (_ : Unit) => fz_WM k q (va_up f 1 (upd (f 1) 47 p2)) pa v) (fun (_ : Unit) => True)) 0 0 A := by
  refine fz_of (by decide +kernel) (Nat.le_of_ble_eq_true rfl) ?_
  intro p e s m below meth c hx hb hr hml hown hlocks hts hin hA hP hK hD hG hS ls hl
  have hown : s.vm.findClass RX10 = some m.cls := hown
  have S0 : CallFix p m c cX10_set 4 s [.ref (q 0), .int 1, .int 9, .int p2].toArray (fz_ws yX10_set cX10_set 4 none) RX10 := ⟨hx, hb, hml, hown, hts⟩
  have hl : lv_has ls 4 [(0, .ref (q 0)), (1, .int 1), (2, .int 9), (3, .int p2)] := hl
  refine lv_aload_n hx hb dX10_set_0 rfl (lv_at hl 0 rfl) ?_
  refine va_get (D := D) (ci := 14) (v := .ref (q 1)) (C := RX10) (T := TX10) (N := 22) hx hb hts (fun w9 h9 => fz_m (fin_X10 w9 h9)) hown hK hP 0 rfl rfl 1 (by decide) (hts _ (fz_m fm_462)) (fun _ h9 => h9) rfl dX10_set_1 ?_
  refine lv_bipush (v := 7) hx hb dX10_set_4 (by decide) ?_
  refine lv_iload_n hx hb dX10_set_6 rfl (lv_at hl 1 rfl) ?_
  refine lv_bipush (v := 31) hx hb dX10_set_7 (by decide) ?_
  refine lv_imul hx hb dX10_set_9 ?_
  refine fz_I (y := 31) (by decide) ?_
  refine lv_iadd hx hb dX10_set_10 ?_
  refine fz_I (y := 38) (by decide) ?_
  refine lv_iload_n hx hb dX10_set_11 rfl (lv_at hl 2 rfl) ?_
  refine lv_iadd hx hb dX10_set_12 ?_
  refine fz_I (y := 47) (by decide) ?_
  refine lv_iload_n hx hb dX10_set_13 rfl (lv_at hl 3 rfl) ?_
  refine va_iast hx hb hK hP hD hS 1 0 rfl rfl (fz_vin (by decide)) dX10_set_14 (fun H locs hP hD hS => ?_)
  have hP : va_P D vwCl (fz_WM k q (va_up f 1 (upd (f 1) 47 p2)) pa v) H := hP
  have hD : va_D A (fz_WM k q (va_up f 1 (upd (f 1) 47 p2)) pa v) := hD
  exact fz_vret hx hb hr hlocks hS dX10_set_15 () trivial hP (Nat.le_of_ble_eq_true rfl) (Nat.le_of_ble_eq_true rfl)

set_option maxHeartbeats 4000000 in
set_option maxRecDepth 100000 in
theorem m_set1_10 (l : Launch) (A : Nat → Prop) (D : va_G) (k : Nat → ClassId) (q : Nat → Nat) (f : Nat → Nat → Int32) (pa : Nat → Option Nat) (v : Nat → Int32) (p2 : Int32)   :
    Met l yX10_set (fz_ws yX10_set cX10_set 4 none) { frames := 0, cells := 0, slots := 0, locals := 0 } (va_Pc [.ref (q 0), .int 1, .int 10, .int p2] (fz_PC A D (fz_tys k) (fz_WM k q f pa v))) (fz_QV D A (fun (_ : Unit) => fz_WM k q (va_up f 1 (upd (f 1) 48 p2)) pa v) (fun (_ : Unit) => True)) 0 0 A := by
  refine fz_of (by decide +kernel) (Nat.le_of_ble_eq_true rfl) ?_
  intro p e s m below meth c hx hb hr hml hown hlocks hts hin hA hP hK hD hG hS ls hl
  have hown : s.vm.findClass RX10 = some m.cls := hown
  have S0 : CallFix p m c cX10_set 4 s [.ref (q 0), .int 1, .int 10, .int p2].toArray (fz_ws yX10_set cX10_set 4 none) RX10 := ⟨hx, hb, hml, hown, hts⟩
  have hl : lv_has ls 4 [(0, .ref (q 0)), (1, .int 1), (2, .int 10), (3, .int p2)] := hl
  refine lv_aload_n hx hb dX10_set_0 rfl (lv_at hl 0 rfl) ?_
  refine va_get (D := D) (ci := 14) (v := .ref (q 1)) (C := RX10) (T := TX10) (N := 22) hx hb hts (fun w9 h9 => fz_m (fin_X10 w9 h9)) hown hK hP 0 rfl rfl 1 (by decide) (hts _ (fz_m fm_462)) (fun _ h9 => h9) rfl dX10_set_1 ?_
  refine lv_bipush (v := 7) hx hb dX10_set_4 (by decide) ?_
  refine lv_iload_n hx hb dX10_set_6 rfl (lv_at hl 1 rfl) ?_
  refine lv_bipush (v := 31) hx hb dX10_set_7 (by decide) ?_
  refine lv_imul hx hb dX10_set_9 ?_
  refine fz_I (y := 31) (by decide) ?_
  refine lv_iadd hx hb dX10_set_10 ?_
  refine fz_I (y := 38) (by decide) ?_
  refine lv_iload_n hx hb dX10_set_11 rfl (lv_at hl 2 rfl) ?_
  refine lv_iadd hx hb dX10_set_12 ?_
  refine fz_I (y := 48) (by decide) ?_
  refine lv_iload_n hx hb dX10_set_13 rfl (lv_at hl 3 rfl) ?_
  refine va_iast hx hb hK hP hD hS 1 0 rfl rfl (fz_vin (by decide)) dX10_set_14 (fun H locs hP hD hS => ?_)
  have hP : va_P D vwCl (fz_WM k q (va_up f 1 (upd (f 1) 48 p2)) pa v) H := hP
  have hD : va_D A (fz_WM k q (va_up f 1 (upd (f 1) 48 p2)) pa v) := hD
  exact fz_vret hx hb hr hlocks hS dX10_set_15 () trivial hP (Nat.le_of_ble_eq_true rfl) (Nat.le_of_ble_eq_true rfl)

set_option maxHeartbeats 4000000 in
set_option maxRecDepth 100000 in
theorem m_isNode (l : Launch) (A : Nat → Prop) (D : va_G) (k : Nat → ClassId) (q : Nat → Nat) (f : Nat → Nat → Int32) (pa : Nat → Option Nat) (v : Nat → Int32) (p0 : Int32) (g_f_1_0 : f 1 0 = 1) (g_f_1_7 : f 1 7 = 1)  :
    Met l yX10_isNode (fz_ws yX10_isNode cX10_isNode 2 (some .boolean)) { frames := 12, cells := 0, slots := 0, locals := 160 } (va_Pc [.ref (q 0), .int p0] (fz_PC A D (fz_tys k) (fz_WM k q f pa v))) (fz_QI D A (fun (_ : Unit) => fz_WM k q f pa v) (fun (r : Int32) (_ : Unit) => (r = 1 ∧ p0 = 0) ∨ (r = 0 ∧ ¬ (p0 = 0)))) 0 0 A := by
  refine fz_of (by decide +kernel) (Nat.le_of_ble_eq_true rfl) ?_
  intro p e s m below meth c hx hb hr hml hown hlocks hts hin hA hP hK hD hG hS ls hl
  have hown : s.vm.findClass RX10 = some m.cls := hown
  have S0 : CallFix p m c cX10_isNode 2 s [.ref (q 0), .int p0].toArray (fz_ws yX10_isNode cX10_isNode 2 (some .boolean)) RX10 := ⟨hx, hb, hml, hown, hts⟩
  have hl : lv_has ls 2 [(0, .ref (q 0)), (1, .int p0)] := hl
  refine lv_iload_n hx hb dX10_isNode_0 rfl (lv_at hl 1 rfl) ?_
  refine lv_iconst (v := 0) hx hb dX10_isNode_1 (by decide) ?_
  refine lv_aload_n hx hb dX10_isNode_2 rfl (lv_at hl 0 rfl) ?_
  refine va_get (D := D) (ci := 14) (v := .ref (q 1)) (C := RX10) (T := TX10) (N := 22) hx hb hts (fun w9 h9 => fz_m (fin_X10 w9 h9)) hown hK hP 0 rfl rfl 1 (by decide) (hts _ (fz_m fm_462)) (fun _ h9 => h9) rfl dX10_isNode_3 ?_
  refine lv_iconst (v := 0) hx hb dX10_isNode_6 (by decide) ?_
  refine va_iald hx hb hK hP 1 0 rfl rfl (fz_vin (by decide)) dX10_isNode_7 ?_
  refine fz_I (y := 1) g_f_1_0 ?_
  refine lv_iconst (v := 1) hx hb dX10_isNode_8 (by decide) ?_
  refine lv_isub hx hb dX10_isNode_9 ?_
  refine fz_I (y := 0) (by decide) ?_
  refine fz_cSi (As := [.int p0, .int 0, .int 0]) (rest := []) S0 (m_isBetween l A D k q f pa v p0 0 0) (fz_cwS 3 hts fm_474 fm_475 fm_476 fm_469 rfl rfl ⟨by decide, by decide, by decide +kernel⟩ ⟨Nat.le_of_ble_eq_true rfl, Nat.le_of_ble_eq_true rfl⟩) (fun _ h9 => h9) (fun a9 h9 => hA a9 (Nat.le_trans hS.1 h9)) hG hS hP hK hD rfl hl.1 rfl (Nat.le_of_ble_eq_true rfl) dX10_isNode_10 ⟨Nat.le_of_ble_eq_true rfl, Nat.le_of_ble_eq_true rfl⟩ (fun r_1 u_1 H locs hw hz1 hk1 hP hS => ?_)
  have hP : va_P D vwCl (fz_WM k q f pa v) H := hP
  rcases (show (r_1 = 1 ∧ (0 ≤ p0 ∧ p0 ≤ 0)) ∨ (r_1 = 0 ∧ ¬ ((0 ≤ p0 ∧ p0 ≤ 0))) from hw) with ⟨rfl, hq_1⟩ | ⟨rfl, hq_1⟩
  · skip
    obtain rfl : p0 = 0 := (fq_101 p0 hq_1)
    refine lv_if_eq (tgt := 30) hx hb dX10_isNode_13 (by decide) (fun c_2 => absurd c_2 (by decide)) (fun c_2 => ?_)
    refine lv_aload_n hx hb dX10_isNode_16 rfl (lv_at hl 0 rfl) ?_
    refine lv_iload_n hx hb dX10_isNode_17 rfl (lv_at hl 1 rfl) ?_
    refine lv_iconst (v := 0) hx hb dX10_isNode_18 (by decide) ?_
    refine fz_cVi (As := [.int 0, .int 0]) (rest := []) S0 (m_of0 l A D k q f pa v g_f_1_7) (fz_cwV (C := RX10) 2 hts fm_477 fm_478 fm_479 fm_480 fm_469 rfl rfl ⟨by decide, by decide, by decide +kernel⟩ ⟨Nat.le_of_ble_eq_true rfl, Nat.le_of_ble_eq_true rfl⟩) (va_recv hK hP (ci := 14) (q0 := 0) rfl rfl) (fun _ h9 => h9) (fun a9 h9 => hA a9 (Nat.le_trans hS.1 h9)) hG hS hP hK hD rfl hl.1 rfl (Nat.le_of_ble_eq_true rfl) dX10_isNode_19 ⟨Nat.le_of_ble_eq_true rfl, Nat.le_of_ble_eq_true rfl⟩ (fun r_3 u_3 H locs hw hz1 hk1 hP hS => ?_)
    have hP : va_P D vwCl (fz_WM k q f pa v) H := hP
    obtain rfl : r_3 = 1 := hw
    refine lv_iconst (v := 1) hx hb dX10_isNode_22 (by decide) ?_
    refine lv_icmp_ne (tgt := 30) hx hb dX10_isNode_23 (by decide) (fun c_4 => absurd (by decide) c_4) (fun c_4 => ?_)
    refine lv_iconst (v := 1) hx hb dX10_isNode_26 (by decide) ?_
    refine lv_goto (tgt := 31) hx hb dX10_isNode_27 (by decide) ?_
    exact fz_iret hx hb hr rfl hlocks hS dX10_isNode_31 () (Or.inl ⟨rfl, (fq_3 )⟩) hP (Nat.le_of_ble_eq_true rfl) (Nat.le_of_ble_eq_true rfl)
  · skip
    refine lv_if_eq (tgt := 30) hx hb dX10_isNode_13 (by decide) (fun c_5 => ?_) (fun c_5 => absurd (by decide) c_5)
    refine lv_iconst (v := 0) hx hb dX10_isNode_30 (by decide) ?_
    exact fz_iret hx hb hr rfl hlocks hS dX10_isNode_31 () (Or.inr ⟨rfl, (fq_102 p0 hq_1)⟩) hP (Nat.le_of_ble_eq_true rfl) (Nat.le_of_ble_eq_true rfl)

set_option maxHeartbeats 4000000 in
set_option maxRecDepth 100000 in
theorem m_isUnit (l : Launch) (A : Nat → Prop) (D : va_G) (k : Nat → ClassId) (q : Nat → Nat) (f : Nat → Nat → Int32) (pa : Nat → Option Nat) (v : Nat → Int32) (p0 : Int32) (g_f_1_0 : f 1 0 = 1) (g_f_1_7 : f 1 7 = 1) (g_f_1_10 : f 1 10 = 0)  :
    Met l yX10_isUnit (fz_ws yX10_isUnit cX10_isUnit 2 (some .boolean)) { frames := 24, cells := 0, slots := 0, locals := 320 } (va_Pc [.ref (q 0), .int p0] (fz_PC A D (fz_tys k) (fz_WM k q f pa v))) (fz_QI D A (fun (_ : Unit) => fz_WM k q f pa v) (fun (r : Int32) (_ : Unit) => r = 0)) 0 0 A := by
  refine fz_of (by decide +kernel) (Nat.le_of_ble_eq_true rfl) ?_
  intro p e s m below meth c hx hb hr hml hown hlocks hts hin hA hP hK hD hG hS ls hl
  have hown : s.vm.findClass RX10 = some m.cls := hown
  have S0 : CallFix p m c cX10_isUnit 2 s [.ref (q 0), .int p0].toArray (fz_ws yX10_isUnit cX10_isUnit 2 (some .boolean)) RX10 := ⟨hx, hb, hml, hown, hts⟩
  have hl : lv_has ls 2 [(0, .ref (q 0)), (1, .int p0)] := hl
  refine lv_aload_n hx hb dX10_isUnit_0 rfl (lv_at hl 0 rfl) ?_
  refine lv_iload_n hx hb dX10_isUnit_1 rfl (lv_at hl 1 rfl) ?_
  refine fz_cVi (As := [.int p0]) (rest := []) S0 (m_isNode l A D k q f pa v p0 g_f_1_0 g_f_1_7) (fz_cwV (C := RX10) 1 hts fm_481 fm_482 fm_483 fm_484 fm_469 rfl rfl ⟨by decide, by decide, by decide +kernel⟩ ⟨Nat.le_of_ble_eq_true rfl, Nat.le_of_ble_eq_true rfl⟩) (va_recv hK hP (ci := 14) (q0 := 0) rfl rfl) (fun _ h9 => h9) (fun a9 h9 => hA a9 (Nat.le_trans hS.1 h9)) hG hS hP hK hD rfl hl.1 rfl (Nat.le_of_ble_eq_true rfl) dX10_isUnit_2 ⟨Nat.le_of_ble_eq_true rfl, Nat.le_of_ble_eq_true rfl⟩ (fun r_1 u_1 H locs hw hz1 hk1 hP hS => ?_)
  have hP : va_P D vwCl (fz_WM k q f pa v) H := hP
  rcases (show (r_1 = 1 ∧ p0 = 0) ∨ (r_1 = 0 ∧ ¬ (p0 = 0)) from hw) with ⟨rfl, hq_1⟩ | ⟨rfl, hq_1⟩
  · skip
    obtain rfl : p0 = 0 := (fq_27 p0 hq_1)
    refine lv_if_eq (tgt := 21) hx hb dX10_isUnit_5 (by decide) (fun c_2 => absurd c_2 (by decide)) (fun c_2 => ?_)
    refine lv_aload_n hx hb dX10_isUnit_8 rfl (lv_at hl 0 rfl) ?_
    refine lv_iload_n hx hb dX10_isUnit_9 rfl (lv_at hl 1 rfl) ?_
    refine lv_iconst (v := 3) hx hb dX10_isUnit_10 (by decide) ?_
    refine fz_cVi (As := [.int 0, .int 3]) (rest := []) S0 (m_of3 l A D k q f pa v g_f_1_10) (fz_cwV (C := RX10) 2 hts fm_477 fm_478 fm_479 fm_480 fm_469 rfl rfl ⟨by decide, by decide, by decide +kernel⟩ ⟨Nat.le_of_ble_eq_true rfl, Nat.le_of_ble_eq_true rfl⟩) (va_recv hK hP (ci := 14) (q0 := 0) rfl rfl) (fun _ h9 => h9) (fun a9 h9 => hA a9 (Nat.le_trans hS.1 h9)) hG hS hP hK hD rfl hl.1 rfl (Nat.le_of_ble_eq_true rfl) dX10_isUnit_11 ⟨Nat.le_of_ble_eq_true rfl, Nat.le_of_ble_eq_true rfl⟩ (fun r_3 u_3 H locs hw hz1 hk1 hP hS => ?_)
    have hP : va_P D vwCl (fz_WM k q f pa v) H := hP
    obtain rfl : r_3 = 0 := hw
    refine lv_if_le (tgt := 21) hx hb dX10_isUnit_14 (by decide) (fun c_4 => ?_) (fun c_4 => absurd (by decide) c_4)
    refine lv_iconst (v := 0) hx hb dX10_isUnit_21 (by decide) ?_
    exact fz_iret hx hb hr rfl hlocks hS dX10_isUnit_22 () rfl hP (Nat.le_of_ble_eq_true rfl) (Nat.le_of_ble_eq_true rfl)
  · skip
    refine lv_if_eq (tgt := 21) hx hb dX10_isUnit_5 (by decide) (fun c_5 => ?_) (fun c_5 => absurd (by decide) c_5)
    refine lv_iconst (v := 0) hx hb dX10_isUnit_21 (by decide) ?_
    exact fz_iret hx hb hr rfl hlocks hS dX10_isUnit_22 () rfl hP (Nat.le_of_ble_eq_true rfl) (Nat.le_of_ble_eq_true rfl)

set_option maxHeartbeats 4000000 in
set_option maxRecDepth 100000 in
theorem m_makeNode1 (l : Launch) (A : Nat → Prop) (D : va_G) (k : Nat → ClassId) (q : Nat → Nat) (f : Nat → Nat → Int32) (pa : Nat → Option Nat) (v : Nat → Int32) (p1 p2 p3 p4 : Int32) (g_f_1_0 : f 1 0 = 1) (g_f_1_1 : f 1 1 = 1)  :
    Met l yX10_makeNode (fz_ws yX10_makeNode cX10_makeNode 8 (some .int)) { frames := 24, cells := 0, slots := 0, locals := 320 } (va_Pc [.ref (q 0), .int 0, .int p1, .int p2, .int p3, .int p4] (fz_PC A D (fz_tys k) (fz_WM k q f pa v))) (fz_QI D A (fun (u : Nat → Int32) => fz_WM k q (va_up f 1 u) pa v) (fun (r : Int32) (_ : Nat → Int32) => r = 1)) 0 0 A := by
  refine fz_of (by decide +kernel) (Nat.le_of_ble_eq_true rfl) ?_
  intro p e s m below meth c hx hb hr hml hown hlocks hts hin hA hP hK hD hG hS ls hl
  have hown : s.vm.findClass RX10 = some m.cls := hown
  have S0 : CallFix p m c cX10_makeNode 8 s [.ref (q 0), .int 0, .int p1, .int p2, .int p3, .int p4].toArray (fz_ws yX10_makeNode cX10_makeNode 8 (some .int)) RX10 := ⟨hx, hb, hml, hown, hts⟩
  have hl : lv_has ls 8 [(0, .ref (q 0)), (1, .int 0), (2, .int p1), (3, .int p2), (4, .int p3), (5, .int p4)] := hl
  refine lv_aload_n hx hb dX10_makeNode_0 rfl (lv_at hl 0 rfl) ?_
  refine va_get (D := D) (ci := 14) (v := .ref (q 1)) (C := RX10) (T := TX10) (N := 22) hx hb hts (fun w9 h9 => fz_m (fin_X10 w9 h9)) hown hK hP 0 rfl rfl 1 (by decide) (hts _ (fz_m fm_462)) (fun _ h9 => h9) rfl dX10_makeNode_1 ?_
  refine lv_iconst (v := 0) hx hb dX10_makeNode_4 (by decide) ?_
  refine va_iald hx hb hK hP 1 0 rfl rfl (fz_vin (by decide)) dX10_makeNode_5 ?_
  refine fz_I (y := 1) g_f_1_0 ?_
  refine lv_istore (lv' := [(6, .int 1), (0, .ref (q 0)), (1, .int 0), (2, .int p1), (3, .int p2), (4, .int p3), (5, .int p4)]) hx hb dX10_makeNode_6 hl (by decide) rfl (fun ls hl => ?_)
  refine lv_iconst (v := 0) hx hb dX10_makeNode_8 (by decide) ?_
  refine lv_istore (lv' := [(7, .int 0), (6, .int 1), (0, .ref (q 0)), (1, .int 0), (2, .int p1), (3, .int p2), (4, .int p3), (5, .int p4)]) hx hb dX10_makeNode_9 hl (by decide) rfl (fun ls hl => ?_)
  have rest : ∀ (u : Nat → Int32) (H : Heap) (locs : List Loc), (∀ z, z < 7 → u z = f 1 z) → va_P D vwCl (fz_WM k q (va_up f 1 u) pa v) H → va_D A (fz_WM k q (va_up f 1 u) pa v) → va_S A s.heap H locs → ∀ ls : Array Slot, lv_has ls 8 [(7, .int (nI 31)), (6, .int 1), (0, .ref (q 0)), (1, .int 0), (2, .int p1), (3, .int p2), (4, .int p3), (5, .int p4)] → W p l e { frames := 24, cells := 0, slots := 0, locals := 320 } s m [.ref (q 0), .int 0, .int p1, .int p2, .int p3, .int p4].toArray below meth c H locs 0 0 (MQ below (fz_QI D A (fun (u : Nat → Int32) => fz_WM k q (va_up f 1 u) pa v) (fun (r : Int32) (_ : Nat → Int32) => r = 1)) [.ref (q 0), .int 0, .int p1, .int p2, .int p3, .int p4].toArray s 0 0 A) (F0 m 33 ls []) := by
    intro u_l H locs hz_l hP hD hS ls hl
    refine lv_aload_n hx hb dX10_makeNode_33 rfl (lv_at hl 2 rfl) ?_
    refine lv_iload hx hb dX10_makeNode_34 (lv_at hl 1 rfl) ?_
    refine lv_iconst (v := 0) hx hb dX10_makeNode_36 (by decide) ?_
    refine lv_iconst (v := 1) hx hb dX10_makeNode_37 (by decide) ?_
    refine fz_cVv (As := [.int 1, .int 0, .int 1]) (rest := []) S0 (m_set1_0 l A D k q (va_up f 1 u_l) pa v 1) (fz_cwV (C := RX10) 3 hts fm_485 fm_486 fm_487 fm_488 fm_469 rfl rfl ⟨by decide, by decide, by decide +kernel⟩ ⟨Nat.le_of_ble_eq_true rfl, Nat.le_of_ble_eq_true rfl⟩) (va_recv hK hP (ci := 14) (q0 := 0) rfl rfl) (fun _ h9 => h9) (fun a9 h9 => hA a9 (Nat.le_trans hS.1 h9)) hG hS hP hK hD rfl hl.1 rfl (Nat.le_of_ble_eq_true rfl) dX10_makeNode_38 ⟨Nat.le_of_ble_eq_true rfl, Nat.le_of_ble_eq_true rfl⟩ (fun u_1 H locs hw hz1 hk1 hP hS => ?_)
    have hP : va_P D vwCl (fz_WM k q (va_up f 1 (upd u_l 38 1)) pa v) H := hP
    have hD : va_D A (fz_WM k q (va_up f 1 (upd u_l 38 1)) pa v) := fz_Dsame hD rfl
    refine lv_aload_n hx hb dX10_makeNode_41 rfl (lv_at hl 2 rfl) ?_
    refine lv_iload hx hb dX10_makeNode_42 (lv_at hl 1 rfl) ?_
    refine lv_iconst (v := 1) hx hb dX10_makeNode_44 (by decide) ?_
    refine lv_iload_n hx hb dX10_makeNode_45 rfl (lv_at hl 4 rfl) ?_
    refine fz_cVv (As := [.int 1, .int 1, .int p1]) (rest := []) S0 (m_set1_1 l A D k q (va_up f 1 (upd u_l 38 1)) pa v p1) (fz_cwV (C := RX10) 3 hts fm_485 fm_486 fm_487 fm_488 fm_469 rfl rfl ⟨by decide, by decide, by decide +kernel⟩ ⟨Nat.le_of_ble_eq_true rfl, Nat.le_of_ble_eq_true rfl⟩) (va_recv hK hP (ci := 14) (q0 := 0) rfl rfl) (fun _ h9 => h9) (fun a9 h9 => hA a9 (Nat.le_trans hS.1 h9)) hG hS hP hK hD rfl hl.1 rfl (Nat.le_of_ble_eq_true rfl) dX10_makeNode_46 ⟨Nat.le_of_ble_eq_true rfl, Nat.le_of_ble_eq_true rfl⟩ (fun u_2 H locs hw hz1 hk1 hP hS => ?_)
    have hP : va_P D vwCl (fz_WM k q (va_up f 1 (upd (upd u_l 38 1) 39 p1)) pa v) H := hP
    have hD : va_D A (fz_WM k q (va_up f 1 (upd (upd u_l 38 1) 39 p1)) pa v) := fz_Dsame hD rfl
    refine lv_aload_n hx hb dX10_makeNode_49 rfl (lv_at hl 2 rfl) ?_
    refine lv_iload hx hb dX10_makeNode_50 (lv_at hl 1 rfl) ?_
    refine lv_iconst (v := 2) hx hb dX10_makeNode_52 (by decide) ?_
    refine lv_iload_n hx hb dX10_makeNode_53 rfl (lv_at hl 3 rfl) ?_
    refine fz_cVv (As := [.int 1, .int 2, .int 0]) (rest := []) S0 (m_set1_2 l A D k q (va_up f 1 (upd (upd u_l 38 1) 39 p1)) pa v 0) (fz_cwV (C := RX10) 3 hts fm_485 fm_486 fm_487 fm_488 fm_469 rfl rfl ⟨by decide, by decide, by decide +kernel⟩ ⟨Nat.le_of_ble_eq_true rfl, Nat.le_of_ble_eq_true rfl⟩) (va_recv hK hP (ci := 14) (q0 := 0) rfl rfl) (fun _ h9 => h9) (fun a9 h9 => hA a9 (Nat.le_trans hS.1 h9)) hG hS hP hK hD rfl hl.1 rfl (Nat.le_of_ble_eq_true rfl) dX10_makeNode_54 ⟨Nat.le_of_ble_eq_true rfl, Nat.le_of_ble_eq_true rfl⟩ (fun u_3 H locs hw hz1 hk1 hP hS => ?_)
    have hP : va_P D vwCl (fz_WM k q (va_up f 1 (upd (upd (upd u_l 38 1) 39 p1) 40 0)) pa v) H := hP
    have hD : va_D A (fz_WM k q (va_up f 1 (upd (upd (upd u_l 38 1) 39 p1) 40 0)) pa v) := fz_Dsame hD rfl
    refine lv_aload_n hx hb dX10_makeNode_57 rfl (lv_at hl 2 rfl) ?_
    refine lv_iload hx hb dX10_makeNode_58 (lv_at hl 1 rfl) ?_
    refine lv_iconst (v := 3) hx hb dX10_makeNode_60 (by decide) ?_
    refine lv_iload_n hx hb dX10_makeNode_61 rfl (lv_at hl 5 rfl) ?_
    refine fz_cVv (As := [.int 1, .int 3, .int p2]) (rest := []) S0 (m_set1_3 l A D k q (va_up f 1 (upd (upd (upd u_l 38 1) 39 p1) 40 0)) pa v p2) (fz_cwV (C := RX10) 3 hts fm_485 fm_486 fm_487 fm_488 fm_469 rfl rfl ⟨by decide, by decide, by decide +kernel⟩ ⟨Nat.le_of_ble_eq_true rfl, Nat.le_of_ble_eq_true rfl⟩) (va_recv hK hP (ci := 14) (q0 := 0) rfl rfl) (fun _ h9 => h9) (fun a9 h9 => hA a9 (Nat.le_trans hS.1 h9)) hG hS hP hK hD rfl hl.1 rfl (Nat.le_of_ble_eq_true rfl) dX10_makeNode_62 ⟨Nat.le_of_ble_eq_true rfl, Nat.le_of_ble_eq_true rfl⟩ (fun u_4 H locs hw hz1 hk1 hP hS => ?_)
    have hP : va_P D vwCl (fz_WM k q (va_up f 1 (upd (upd (upd (upd u_l 38 1) 39 p1) 40 0) 41 p2)) pa v) H := hP
    have hD : va_D A (fz_WM k q (va_up f 1 (upd (upd (upd (upd u_l 38 1) 39 p1) 40 0) 41 p2)) pa v) := fz_Dsame hD rfl
    refine lv_aload_n hx hb dX10_makeNode_65 rfl (lv_at hl 2 rfl) ?_
    refine lv_iload hx hb dX10_makeNode_66 (lv_at hl 1 rfl) ?_
    refine lv_iconst (v := 4) hx hb dX10_makeNode_68 (by decide) ?_
    refine lv_iload hx hb dX10_makeNode_69 (lv_at hl 6 rfl) ?_
    refine fz_cVv (As := [.int 1, .int 4, .int p3]) (rest := []) S0 (m_set1_4 l A D k q (va_up f 1 (upd (upd (upd (upd u_l 38 1) 39 p1) 40 0) 41 p2)) pa v p3) (fz_cwV (C := RX10) 3 hts fm_485 fm_486 fm_487 fm_488 fm_469 rfl rfl ⟨by decide, by decide, by decide +kernel⟩ ⟨Nat.le_of_ble_eq_true rfl, Nat.le_of_ble_eq_true rfl⟩) (va_recv hK hP (ci := 14) (q0 := 0) rfl rfl) (fun _ h9 => h9) (fun a9 h9 => hA a9 (Nat.le_trans hS.1 h9)) hG hS hP hK hD rfl hl.1 rfl (Nat.le_of_ble_eq_true rfl) dX10_makeNode_71 ⟨Nat.le_of_ble_eq_true rfl, Nat.le_of_ble_eq_true rfl⟩ (fun u_5 H locs hw hz1 hk1 hP hS => ?_)
    have hP : va_P D vwCl (fz_WM k q (va_up f 1 (upd (upd (upd (upd (upd u_l 38 1) 39 p1) 40 0) 41 p2) 42 p3)) pa v) H := hP
    have hD : va_D A (fz_WM k q (va_up f 1 (upd (upd (upd (upd (upd u_l 38 1) 39 p1) 40 0) 41 p2) 42 p3)) pa v) := fz_Dsame hD rfl
    refine lv_aload_n hx hb dX10_makeNode_74 rfl (lv_at hl 2 rfl) ?_
    refine lv_iload hx hb dX10_makeNode_75 (lv_at hl 1 rfl) ?_
    refine lv_iconst (v := 5) hx hb dX10_makeNode_77 (by decide) ?_
    refine lv_iload hx hb dX10_makeNode_78 (lv_at hl 6 rfl) ?_
    refine lv_if_ge (tgt := 87) hx hb dX10_makeNode_80 (by decide) (fun c_6 => ?_) (fun c_6 => ?_)
    · skip
      refine lv_iload hx hb dX10_makeNode_87 (lv_at hl 7 rfl) ?_
      refine fz_cVv (As := [.int 1, .int 5, .int p4]) (rest := []) S0 (m_set1_5 l A D k q (va_up f 1 (upd (upd (upd (upd (upd u_l 38 1) 39 p1) 40 0) 41 p2) 42 p3)) pa v p4) (fz_cwV (C := RX10) 3 hts fm_485 fm_486 fm_487 fm_488 fm_469 rfl rfl ⟨by decide, by decide, by decide +kernel⟩ ⟨Nat.le_of_ble_eq_true rfl, Nat.le_of_ble_eq_true rfl⟩) (va_recv hK hP (ci := 14) (q0 := 0) rfl rfl) (fun _ h9 => h9) (fun a9 h9 => hA a9 (Nat.le_trans hS.1 h9)) hG hS hP hK hD rfl hl.1 rfl (Nat.le_of_ble_eq_true rfl) dX10_makeNode_89 ⟨Nat.le_of_ble_eq_true rfl, Nat.le_of_ble_eq_true rfl⟩ (fun u_7 H locs hw hz1 hk1 hP hS => ?_)
      have hP : va_P D vwCl (fz_WM k q (va_up f 1 (upd (upd (upd (upd (upd (upd u_l 38 1) 39 p1) 40 0) 41 p2) 42 p3) 43 p4)) pa v) H := hP
      have hD : va_D A (fz_WM k q (va_up f 1 (upd (upd (upd (upd (upd (upd u_l 38 1) 39 p1) 40 0) 41 p2) 42 p3) 43 p4)) pa v) := fz_Dsame hD rfl
      refine lv_aload_n hx hb dX10_makeNode_92 rfl (lv_at hl 2 rfl) ?_
      refine lv_iload hx hb dX10_makeNode_93 (lv_at hl 1 rfl) ?_
      refine lv_bipush (v := 6) hx hb dX10_makeNode_95 (by decide) ?_
      refine lv_iconst (v := (-1)) hx hb dX10_makeNode_97 (by decide) ?_
      refine fz_cVv (As := [.int 1, .int 6, .int (-1)]) (rest := []) S0 (m_set1_6 l A D k q (va_up f 1 (upd (upd (upd (upd (upd (upd u_l 38 1) 39 p1) 40 0) 41 p2) 42 p3) 43 p4)) pa v (-1)) (fz_cwV (C := RX10) 3 hts fm_485 fm_486 fm_487 fm_488 fm_469 rfl rfl ⟨by decide, by decide, by decide +kernel⟩ ⟨Nat.le_of_ble_eq_true rfl, Nat.le_of_ble_eq_true rfl⟩) (va_recv hK hP (ci := 14) (q0 := 0) rfl rfl) (fun _ h9 => h9) (fun a9 h9 => hA a9 (Nat.le_trans hS.1 h9)) hG hS hP hK hD rfl hl.1 rfl (Nat.le_of_ble_eq_true rfl) dX10_makeNode_98 ⟨Nat.le_of_ble_eq_true rfl, Nat.le_of_ble_eq_true rfl⟩ (fun u_8 H locs hw hz1 hk1 hP hS => ?_)
      have hP : va_P D vwCl (fz_WM k q (va_up f 1 (upd (upd (upd (upd (upd (upd (upd u_l 38 1) 39 p1) 40 0) 41 p2) 42 p3) 43 p4) 44 (-1))) pa v) H := hP
      have hD : va_D A (fz_WM k q (va_up f 1 (upd (upd (upd (upd (upd (upd (upd u_l 38 1) 39 p1) 40 0) 41 p2) 42 p3) 43 p4) 44 (-1))) pa v) := fz_Dsame hD rfl
      refine lv_aload_n hx hb dX10_makeNode_101 rfl (lv_at hl 2 rfl) ?_
      refine lv_iload hx hb dX10_makeNode_102 (lv_at hl 1 rfl) ?_
      refine lv_bipush (v := 8) hx hb dX10_makeNode_104 (by decide) ?_
      refine lv_iconst (v := (-1)) hx hb dX10_makeNode_106 (by decide) ?_
      refine fz_cVv (As := [.int 1, .int 8, .int (-1)]) (rest := []) S0 (m_set1_8 l A D k q (va_up f 1 (upd (upd (upd (upd (upd (upd (upd u_l 38 1) 39 p1) 40 0) 41 p2) 42 p3) 43 p4) 44 (-1))) pa v (-1)) (fz_cwV (C := RX10) 3 hts fm_485 fm_486 fm_487 fm_488 fm_469 rfl rfl ⟨by decide, by decide, by decide +kernel⟩ ⟨Nat.le_of_ble_eq_true rfl, Nat.le_of_ble_eq_true rfl⟩) (va_recv hK hP (ci := 14) (q0 := 0) rfl rfl) (fun _ h9 => h9) (fun a9 h9 => hA a9 (Nat.le_trans hS.1 h9)) hG hS hP hK hD rfl hl.1 rfl (Nat.le_of_ble_eq_true rfl) dX10_makeNode_107 ⟨Nat.le_of_ble_eq_true rfl, Nat.le_of_ble_eq_true rfl⟩ (fun u_9 H locs hw hz1 hk1 hP hS => ?_)
      have hP : va_P D vwCl (fz_WM k q (va_up f 1 (upd (upd (upd (upd (upd (upd (upd (upd u_l 38 1) 39 p1) 40 0) 41 p2) 42 p3) 43 p4) 44 (-1)) 46 (-1))) pa v) H := hP
      have hD : va_D A (fz_WM k q (va_up f 1 (upd (upd (upd (upd (upd (upd (upd (upd u_l 38 1) 39 p1) 40 0) 41 p2) 42 p3) 43 p4) 44 (-1)) 46 (-1))) pa v) := fz_Dsame hD rfl
      refine lv_aload_n hx hb dX10_makeNode_110 rfl (lv_at hl 2 rfl) ?_
      refine lv_iload hx hb dX10_makeNode_111 (lv_at hl 1 rfl) ?_
      refine lv_bipush (v := 9) hx hb dX10_makeNode_113 (by decide) ?_
      refine lv_iconst (v := (-1)) hx hb dX10_makeNode_115 (by decide) ?_
      refine fz_cVv (As := [.int 1, .int 9, .int (-1)]) (rest := []) S0 (m_set1_9 l A D k q (va_up f 1 (upd (upd (upd (upd (upd (upd (upd (upd u_l 38 1) 39 p1) 40 0) 41 p2) 42 p3) 43 p4) 44 (-1)) 46 (-1))) pa v (-1)) (fz_cwV (C := RX10) 3 hts fm_485 fm_486 fm_487 fm_488 fm_469 rfl rfl ⟨by decide, by decide, by decide +kernel⟩ ⟨Nat.le_of_ble_eq_true rfl, Nat.le_of_ble_eq_true rfl⟩) (va_recv hK hP (ci := 14) (q0 := 0) rfl rfl) (fun _ h9 => h9) (fun a9 h9 => hA a9 (Nat.le_trans hS.1 h9)) hG hS hP hK hD rfl hl.1 rfl (Nat.le_of_ble_eq_true rfl) dX10_makeNode_116 ⟨Nat.le_of_ble_eq_true rfl, Nat.le_of_ble_eq_true rfl⟩ (fun u_10 H locs hw hz1 hk1 hP hS => ?_)
      have hP : va_P D vwCl (fz_WM k q (va_up f 1 (upd (upd (upd (upd (upd (upd (upd (upd (upd u_l 38 1) 39 p1) 40 0) 41 p2) 42 p3) 43 p4) 44 (-1)) 46 (-1)) 47 (-1))) pa v) H := hP
      have hD : va_D A (fz_WM k q (va_up f 1 (upd (upd (upd (upd (upd (upd (upd (upd (upd u_l 38 1) 39 p1) 40 0) 41 p2) 42 p3) 43 p4) 44 (-1)) 46 (-1)) 47 (-1))) pa v) := fz_Dsame hD rfl
      refine lv_aload_n hx hb dX10_makeNode_119 rfl (lv_at hl 2 rfl) ?_
      refine lv_iload hx hb dX10_makeNode_120 (lv_at hl 1 rfl) ?_
      refine lv_bipush (v := 10) hx hb dX10_makeNode_122 (by decide) ?_
      refine lv_aload_n hx hb dX10_makeNode_124 rfl (lv_at hl 2 rfl) ?_
      refine va_get (D := D) (ci := 14) (v := .ref (q 1)) (C := RX10) (T := TX10) (N := 22) hx hb hts (fun w9 h9 => fz_m (fin_X10 w9 h9)) hown hK hP 0 rfl rfl 1 (by decide) (hts _ (fz_m fm_462)) (fun _ h9 => h9) rfl dX10_makeNode_125 ?_
      refine lv_iconst (v := 1) hx hb dX10_makeNode_128 (by decide) ?_
      refine va_iald hx hb hK hP 1 0 rfl rfl (fz_vin (by decide)) dX10_makeNode_129 ?_
      refine fz_I (y := 1) ((hz_l 1 (by decide)).trans g_f_1_1) ?_
      refine fz_cVv (As := [.int 1, .int 10, .int 1]) (rest := []) S0 (m_set1_10 l A D k q (va_up f 1 (upd (upd (upd (upd (upd (upd (upd (upd (upd u_l 38 1) 39 p1) 40 0) 41 p2) 42 p3) 43 p4) 44 (-1)) 46 (-1)) 47 (-1))) pa v 1) (fz_cwV (C := RX10) 3 hts fm_485 fm_486 fm_487 fm_488 fm_469 rfl rfl ⟨by decide, by decide, by decide +kernel⟩ ⟨Nat.le_of_ble_eq_true rfl, Nat.le_of_ble_eq_true rfl⟩) (va_recv hK hP (ci := 14) (q0 := 0) rfl rfl) (fun _ h9 => h9) (fun a9 h9 => hA a9 (Nat.le_trans hS.1 h9)) hG hS hP hK hD rfl hl.1 rfl (Nat.le_of_ble_eq_true rfl) dX10_makeNode_130 ⟨Nat.le_of_ble_eq_true rfl, Nat.le_of_ble_eq_true rfl⟩ (fun u_11 H locs hw hz1 hk1 hP hS => ?_)
      have hP : va_P D vwCl (fz_WM k q (va_up f 1 (upd (upd (upd (upd (upd (upd (upd (upd (upd (upd u_l 38 1) 39 p1) 40 0) 41 p2) 42 p3) 43 p4) 44 (-1)) 46 (-1)) 47 (-1)) 48 1)) pa v) H := hP
      have hD : va_D A (fz_WM k q (va_up f 1 (upd (upd (upd (upd (upd (upd (upd (upd (upd (upd u_l 38 1) 39 p1) 40 0) 41 p2) 42 p3) 43 p4) 44 (-1)) 46 (-1)) 47 (-1)) 48 1)) pa v) := fz_Dsame hD rfl
      refine lv_aload_n hx hb dX10_makeNode_133 rfl (lv_at hl 2 rfl) ?_
      refine va_get (D := D) (ci := 14) (v := .ref (q 1)) (C := RX10) (T := TX10) (N := 22) hx hb hts (fun w9 h9 => fz_m (fin_X10 w9 h9)) hown hK hP 0 rfl rfl 1 (by decide) (hts _ (fz_m fm_462)) (fun _ h9 => h9) rfl dX10_makeNode_134 ?_
      refine lv_iconst (v := 0) hx hb dX10_makeNode_137 (by decide) ?_
      refine lv_dup2_11 hx hb dX10_makeNode_138 rfl rfl ?_
      refine va_iald hx hb hK hP 1 0 rfl rfl (fz_vin (by decide)) dX10_makeNode_139 ?_
      refine fz_I (y := 1) ((hz_l 0 (by decide)).trans g_f_1_0) ?_
      refine lv_iconst (v := 1) hx hb dX10_makeNode_140 (by decide) ?_
      refine lv_iadd hx hb dX10_makeNode_141 ?_
      refine fz_I (y := 2) (by decide) ?_
      refine va_iast hx hb hK hP hD hS 1 0 rfl rfl (fz_vin (by decide)) dX10_makeNode_142 (fun H locs hP hD hS => ?_)
      have hP : va_P D vwCl (fz_WM k q (va_up f 1 (upd (upd (upd (upd (upd (upd (upd (upd (upd (upd (upd u_l 38 1) 39 p1) 40 0) 41 p2) 42 p3) 43 p4) 44 (-1)) 46 (-1)) 47 (-1)) 48 1) 0 2)) pa v) H := hP
      have hD : va_D A (fz_WM k q (va_up f 1 (upd (upd (upd (upd (upd (upd (upd (upd (upd (upd (upd u_l 38 1) 39 p1) 40 0) 41 p2) 42 p3) 43 p4) 44 (-1)) 46 (-1)) 47 (-1)) 48 1) 0 2)) pa v) := hD
      refine lv_aload_n hx hb dX10_makeNode_143 rfl (lv_at hl 2 rfl) ?_
      refine va_get (D := D) (ci := 14) (v := .ref (q 1)) (C := RX10) (T := TX10) (N := 22) hx hb hts (fun w9 h9 => fz_m (fin_X10 w9 h9)) hown hK hP 0 rfl rfl 1 (by decide) (hts _ (fz_m fm_462)) (fun _ h9 => h9) rfl dX10_makeNode_144 ?_
      refine lv_iconst (v := 1) hx hb dX10_makeNode_147 (by decide) ?_
      refine lv_dup2_11 hx hb dX10_makeNode_148 rfl rfl ?_
      refine va_iald hx hb hK hP 1 0 rfl rfl (fz_vin (by decide)) dX10_makeNode_149 ?_
      refine fz_I (y := 1) ((hz_l 1 (by decide)).trans g_f_1_1) ?_
      refine lv_iconst (v := 1) hx hb dX10_makeNode_150 (by decide) ?_
      refine lv_iadd hx hb dX10_makeNode_151 ?_
      refine fz_I (y := 2) (by decide) ?_
      refine va_iast hx hb hK hP hD hS 1 0 rfl rfl (fz_vin (by decide)) dX10_makeNode_152 (fun H locs hP hD hS => ?_)
      have hP : va_P D vwCl (fz_WM k q (va_up f 1 (upd (upd (upd (upd (upd (upd (upd (upd (upd (upd (upd (upd u_l 38 1) 39 p1) 40 0) 41 p2) 42 p3) 43 p4) 44 (-1)) 46 (-1)) 47 (-1)) 48 1) 0 2) 1 2)) pa v) H := hP
      have hD : va_D A (fz_WM k q (va_up f 1 (upd (upd (upd (upd (upd (upd (upd (upd (upd (upd (upd (upd u_l 38 1) 39 p1) 40 0) 41 p2) 42 p3) 43 p4) 44 (-1)) 46 (-1)) 47 (-1)) 48 1) 0 2) 1 2)) pa v) := hD
      refine lv_iload hx hb dX10_makeNode_153 (lv_at hl 1 rfl) ?_
      exact fz_iret hx hb hr rfl hlocks hS dX10_makeNode_155 (upd (upd (upd (upd (upd (upd (upd (upd (upd (upd (upd (upd u_l 38 1) 39 p1) 40 0) 41 p2) 42 p3) 43 p4) 44 (-1)) 46 (-1)) 47 (-1)) 48 1) 0 2) 1 2) rfl hP (Nat.le_of_ble_eq_true rfl) (Nat.le_of_ble_eq_true rfl)
    · skip
      refine lv_iconst (v := (-1)) hx hb dX10_makeNode_83 (by decide) ?_
      refine lv_goto (tgt := 89) hx hb dX10_makeNode_84 (by decide) ?_
      refine fz_cVv (As := [.int 1, .int 5, .int (-1)]) (rest := []) S0 (m_set1_5 l A D k q (va_up f 1 (upd (upd (upd (upd (upd u_l 38 1) 39 p1) 40 0) 41 p2) 42 p3)) pa v (-1)) (fz_cwV (C := RX10) 3 hts fm_485 fm_486 fm_487 fm_488 fm_469 rfl rfl ⟨by decide, by decide, by decide +kernel⟩ ⟨Nat.le_of_ble_eq_true rfl, Nat.le_of_ble_eq_true rfl⟩) (va_recv hK hP (ci := 14) (q0 := 0) rfl rfl) (fun _ h9 => h9) (fun a9 h9 => hA a9 (Nat.le_trans hS.1 h9)) hG hS hP hK hD rfl hl.1 rfl (Nat.le_of_ble_eq_true rfl) dX10_makeNode_89 ⟨Nat.le_of_ble_eq_true rfl, Nat.le_of_ble_eq_true rfl⟩ (fun u_12 H locs hw hz1 hk1 hP hS => ?_)
      have hP : va_P D vwCl (fz_WM k q (va_up f 1 (upd (upd (upd (upd (upd (upd u_l 38 1) 39 p1) 40 0) 41 p2) 42 p3) 43 (-1))) pa v) H := hP
      have hD : va_D A (fz_WM k q (va_up f 1 (upd (upd (upd (upd (upd (upd u_l 38 1) 39 p1) 40 0) 41 p2) 42 p3) 43 (-1))) pa v) := fz_Dsame hD rfl
      refine lv_aload_n hx hb dX10_makeNode_92 rfl (lv_at hl 2 rfl) ?_
      refine lv_iload hx hb dX10_makeNode_93 (lv_at hl 1 rfl) ?_
      refine lv_bipush (v := 6) hx hb dX10_makeNode_95 (by decide) ?_
      refine lv_iconst (v := (-1)) hx hb dX10_makeNode_97 (by decide) ?_
      refine fz_cVv (As := [.int 1, .int 6, .int (-1)]) (rest := []) S0 (m_set1_6 l A D k q (va_up f 1 (upd (upd (upd (upd (upd (upd u_l 38 1) 39 p1) 40 0) 41 p2) 42 p3) 43 (-1))) pa v (-1)) (fz_cwV (C := RX10) 3 hts fm_485 fm_486 fm_487 fm_488 fm_469 rfl rfl ⟨by decide, by decide, by decide +kernel⟩ ⟨Nat.le_of_ble_eq_true rfl, Nat.le_of_ble_eq_true rfl⟩) (va_recv hK hP (ci := 14) (q0 := 0) rfl rfl) (fun _ h9 => h9) (fun a9 h9 => hA a9 (Nat.le_trans hS.1 h9)) hG hS hP hK hD rfl hl.1 rfl (Nat.le_of_ble_eq_true rfl) dX10_makeNode_98 ⟨Nat.le_of_ble_eq_true rfl, Nat.le_of_ble_eq_true rfl⟩ (fun u_13 H locs hw hz1 hk1 hP hS => ?_)
      have hP : va_P D vwCl (fz_WM k q (va_up f 1 (upd (upd (upd (upd (upd (upd (upd u_l 38 1) 39 p1) 40 0) 41 p2) 42 p3) 43 (-1)) 44 (-1))) pa v) H := hP
      have hD : va_D A (fz_WM k q (va_up f 1 (upd (upd (upd (upd (upd (upd (upd u_l 38 1) 39 p1) 40 0) 41 p2) 42 p3) 43 (-1)) 44 (-1))) pa v) := fz_Dsame hD rfl
      refine lv_aload_n hx hb dX10_makeNode_101 rfl (lv_at hl 2 rfl) ?_
      refine lv_iload hx hb dX10_makeNode_102 (lv_at hl 1 rfl) ?_
      refine lv_bipush (v := 8) hx hb dX10_makeNode_104 (by decide) ?_
      refine lv_iconst (v := (-1)) hx hb dX10_makeNode_106 (by decide) ?_
      refine fz_cVv (As := [.int 1, .int 8, .int (-1)]) (rest := []) S0 (m_set1_8 l A D k q (va_up f 1 (upd (upd (upd (upd (upd (upd (upd u_l 38 1) 39 p1) 40 0) 41 p2) 42 p3) 43 (-1)) 44 (-1))) pa v (-1)) (fz_cwV (C := RX10) 3 hts fm_485 fm_486 fm_487 fm_488 fm_469 rfl rfl ⟨by decide, by decide, by decide +kernel⟩ ⟨Nat.le_of_ble_eq_true rfl, Nat.le_of_ble_eq_true rfl⟩) (va_recv hK hP (ci := 14) (q0 := 0) rfl rfl) (fun _ h9 => h9) (fun a9 h9 => hA a9 (Nat.le_trans hS.1 h9)) hG hS hP hK hD rfl hl.1 rfl (Nat.le_of_ble_eq_true rfl) dX10_makeNode_107 ⟨Nat.le_of_ble_eq_true rfl, Nat.le_of_ble_eq_true rfl⟩ (fun u_14 H locs hw hz1 hk1 hP hS => ?_)
      have hP : va_P D vwCl (fz_WM k q (va_up f 1 (upd (upd (upd (upd (upd (upd (upd (upd u_l 38 1) 39 p1) 40 0) 41 p2) 42 p3) 43 (-1)) 44 (-1)) 46 (-1))) pa v) H := hP
      have hD : va_D A (fz_WM k q (va_up f 1 (upd (upd (upd (upd (upd (upd (upd (upd u_l 38 1) 39 p1) 40 0) 41 p2) 42 p3) 43 (-1)) 44 (-1)) 46 (-1))) pa v) := fz_Dsame hD rfl
      refine lv_aload_n hx hb dX10_makeNode_110 rfl (lv_at hl 2 rfl) ?_
      refine lv_iload hx hb dX10_makeNode_111 (lv_at hl 1 rfl) ?_
      refine lv_bipush (v := 9) hx hb dX10_makeNode_113 (by decide) ?_
      refine lv_iconst (v := (-1)) hx hb dX10_makeNode_115 (by decide) ?_
      refine fz_cVv (As := [.int 1, .int 9, .int (-1)]) (rest := []) S0 (m_set1_9 l A D k q (va_up f 1 (upd (upd (upd (upd (upd (upd (upd (upd u_l 38 1) 39 p1) 40 0) 41 p2) 42 p3) 43 (-1)) 44 (-1)) 46 (-1))) pa v (-1)) (fz_cwV (C := RX10) 3 hts fm_485 fm_486 fm_487 fm_488 fm_469 rfl rfl ⟨by decide, by decide, by decide +kernel⟩ ⟨Nat.le_of_ble_eq_true rfl, Nat.le_of_ble_eq_true rfl⟩) (va_recv hK hP (ci := 14) (q0 := 0) rfl rfl) (fun _ h9 => h9) (fun a9 h9 => hA a9 (Nat.le_trans hS.1 h9)) hG hS hP hK hD rfl hl.1 rfl (Nat.le_of_ble_eq_true rfl) dX10_makeNode_116 ⟨Nat.le_of_ble_eq_true rfl, Nat.le_of_ble_eq_true rfl⟩ (fun u_15 H locs hw hz1 hk1 hP hS => ?_)
      have hP : va_P D vwCl (fz_WM k q (va_up f 1 (upd (upd (upd (upd (upd (upd (upd (upd (upd u_l 38 1) 39 p1) 40 0) 41 p2) 42 p3) 43 (-1)) 44 (-1)) 46 (-1)) 47 (-1))) pa v) H := hP
      have hD : va_D A (fz_WM k q (va_up f 1 (upd (upd (upd (upd (upd (upd (upd (upd (upd u_l 38 1) 39 p1) 40 0) 41 p2) 42 p3) 43 (-1)) 44 (-1)) 46 (-1)) 47 (-1))) pa v) := fz_Dsame hD rfl
      refine lv_aload_n hx hb dX10_makeNode_119 rfl (lv_at hl 2 rfl) ?_
      refine lv_iload hx hb dX10_makeNode_120 (lv_at hl 1 rfl) ?_
      refine lv_bipush (v := 10) hx hb dX10_makeNode_122 (by decide) ?_
      refine lv_aload_n hx hb dX10_makeNode_124 rfl (lv_at hl 2 rfl) ?_
      refine va_get (D := D) (ci := 14) (v := .ref (q 1)) (C := RX10) (T := TX10) (N := 22) hx hb hts (fun w9 h9 => fz_m (fin_X10 w9 h9)) hown hK hP 0 rfl rfl 1 (by decide) (hts _ (fz_m fm_462)) (fun _ h9 => h9) rfl dX10_makeNode_125 ?_
      refine lv_iconst (v := 1) hx hb dX10_makeNode_128 (by decide) ?_
      refine va_iald hx hb hK hP 1 0 rfl rfl (fz_vin (by decide)) dX10_makeNode_129 ?_
      refine fz_I (y := 1) ((hz_l 1 (by decide)).trans g_f_1_1) ?_
      refine fz_cVv (As := [.int 1, .int 10, .int 1]) (rest := []) S0 (m_set1_10 l A D k q (va_up f 1 (upd (upd (upd (upd (upd (upd (upd (upd (upd u_l 38 1) 39 p1) 40 0) 41 p2) 42 p3) 43 (-1)) 44 (-1)) 46 (-1)) 47 (-1))) pa v 1) (fz_cwV (C := RX10) 3 hts fm_485 fm_486 fm_487 fm_488 fm_469 rfl rfl ⟨by decide, by decide, by decide +kernel⟩ ⟨Nat.le_of_ble_eq_true rfl, Nat.le_of_ble_eq_true rfl⟩) (va_recv hK hP (ci := 14) (q0 := 0) rfl rfl) (fun _ h9 => h9) (fun a9 h9 => hA a9 (Nat.le_trans hS.1 h9)) hG hS hP hK hD rfl hl.1 rfl (Nat.le_of_ble_eq_true rfl) dX10_makeNode_130 ⟨Nat.le_of_ble_eq_true rfl, Nat.le_of_ble_eq_true rfl⟩ (fun u_16 H locs hw hz1 hk1 hP hS => ?_)
      have hP : va_P D vwCl (fz_WM k q (va_up f 1 (upd (upd (upd (upd (upd (upd (upd (upd (upd (upd u_l 38 1) 39 p1) 40 0) 41 p2) 42 p3) 43 (-1)) 44 (-1)) 46 (-1)) 47 (-1)) 48 1)) pa v) H := hP
      have hD : va_D A (fz_WM k q (va_up f 1 (upd (upd (upd (upd (upd (upd (upd (upd (upd (upd u_l 38 1) 39 p1) 40 0) 41 p2) 42 p3) 43 (-1)) 44 (-1)) 46 (-1)) 47 (-1)) 48 1)) pa v) := fz_Dsame hD rfl
      refine lv_aload_n hx hb dX10_makeNode_133 rfl (lv_at hl 2 rfl) ?_
      refine va_get (D := D) (ci := 14) (v := .ref (q 1)) (C := RX10) (T := TX10) (N := 22) hx hb hts (fun w9 h9 => fz_m (fin_X10 w9 h9)) hown hK hP 0 rfl rfl 1 (by decide) (hts _ (fz_m fm_462)) (fun _ h9 => h9) rfl dX10_makeNode_134 ?_
      refine lv_iconst (v := 0) hx hb dX10_makeNode_137 (by decide) ?_
      refine lv_dup2_11 hx hb dX10_makeNode_138 rfl rfl ?_
      refine va_iald hx hb hK hP 1 0 rfl rfl (fz_vin (by decide)) dX10_makeNode_139 ?_
      refine fz_I (y := 1) ((hz_l 0 (by decide)).trans g_f_1_0) ?_
      refine lv_iconst (v := 1) hx hb dX10_makeNode_140 (by decide) ?_
      refine lv_iadd hx hb dX10_makeNode_141 ?_
      refine fz_I (y := 2) (by decide) ?_
      refine va_iast hx hb hK hP hD hS 1 0 rfl rfl (fz_vin (by decide)) dX10_makeNode_142 (fun H locs hP hD hS => ?_)
      have hP : va_P D vwCl (fz_WM k q (va_up f 1 (upd (upd (upd (upd (upd (upd (upd (upd (upd (upd (upd u_l 38 1) 39 p1) 40 0) 41 p2) 42 p3) 43 (-1)) 44 (-1)) 46 (-1)) 47 (-1)) 48 1) 0 2)) pa v) H := hP
      have hD : va_D A (fz_WM k q (va_up f 1 (upd (upd (upd (upd (upd (upd (upd (upd (upd (upd (upd u_l 38 1) 39 p1) 40 0) 41 p2) 42 p3) 43 (-1)) 44 (-1)) 46 (-1)) 47 (-1)) 48 1) 0 2)) pa v) := hD
      refine lv_aload_n hx hb dX10_makeNode_143 rfl (lv_at hl 2 rfl) ?_
      refine va_get (D := D) (ci := 14) (v := .ref (q 1)) (C := RX10) (T := TX10) (N := 22) hx hb hts (fun w9 h9 => fz_m (fin_X10 w9 h9)) hown hK hP 0 rfl rfl 1 (by decide) (hts _ (fz_m fm_462)) (fun _ h9 => h9) rfl dX10_makeNode_144 ?_
      refine lv_iconst (v := 1) hx hb dX10_makeNode_147 (by decide) ?_
      refine lv_dup2_11 hx hb dX10_makeNode_148 rfl rfl ?_
      refine va_iald hx hb hK hP 1 0 rfl rfl (fz_vin (by decide)) dX10_makeNode_149 ?_
      refine fz_I (y := 1) ((hz_l 1 (by decide)).trans g_f_1_1) ?_
      refine lv_iconst (v := 1) hx hb dX10_makeNode_150 (by decide) ?_
      refine lv_iadd hx hb dX10_makeNode_151 ?_
      refine fz_I (y := 2) (by decide) ?_
      refine va_iast hx hb hK hP hD hS 1 0 rfl rfl (fz_vin (by decide)) dX10_makeNode_152 (fun H locs hP hD hS => ?_)
      have hP : va_P D vwCl (fz_WM k q (va_up f 1 (upd (upd (upd (upd (upd (upd (upd (upd (upd (upd (upd (upd u_l 38 1) 39 p1) 40 0) 41 p2) 42 p3) 43 (-1)) 44 (-1)) 46 (-1)) 47 (-1)) 48 1) 0 2) 1 2)) pa v) H := hP
      have hD : va_D A (fz_WM k q (va_up f 1 (upd (upd (upd (upd (upd (upd (upd (upd (upd (upd (upd (upd u_l 38 1) 39 p1) 40 0) 41 p2) 42 p3) 43 (-1)) 44 (-1)) 46 (-1)) 47 (-1)) 48 1) 0 2) 1 2)) pa v) := hD
      refine lv_iload hx hb dX10_makeNode_153 (lv_at hl 1 rfl) ?_
      exact fz_iret hx hb hr rfl hlocks hS dX10_makeNode_155 (upd (upd (upd (upd (upd (upd (upd (upd (upd (upd (upd (upd u_l 38 1) 39 p1) 40 0) 41 p2) 42 p3) 43 (-1)) 44 (-1)) 46 (-1)) 47 (-1)) 48 1) 0 2) 1 2) rfl hP (Nat.le_of_ble_eq_true rfl) (Nat.le_of_ble_eq_true rfl)
  have loop : ∀ (j i : Nat), i + j = 31 → ∀ (u : Nat → Int32) (H : Heap) (locs : List Loc), (∀ z, z < 7 → u z = f 1 z) → va_P D vwCl (fz_WM k q (va_up f 1 u) pa v) H → va_D A (fz_WM k q (va_up f 1 u) pa v) → va_S A s.heap H locs → ∀ ls : Array Slot, lv_has ls 8 [(7, .int (nI i)), (6, .int 1), (0, .ref (q 0)), (1, .int 0), (2, .int p1), (3, .int p2), (4, .int p3), (5, .int p4)] → W p l e { frames := 24, cells := 0, slots := 0, locals := 320 } s m [.ref (q 0), .int 0, .int p1, .int p2, .int p3, .int p4].toArray below meth c H locs 0 0 (MQ below (fz_QI D A (fun (u : Nat → Int32) => fz_WM k q (va_up f 1 u) pa v) (fun (r : Int32) (_ : Nat → Int32) => r = 1)) [.ref (q 0), .int 0, .int p1, .int p2, .int p3, .int p4].toArray s 0 0 A) (F0 m 11 ls []) := by
    intro j
    induction j with
    | zero =>
      intro i hi u H locs hz hP hD hS ls hl
      have e9 : i = 31 := by omega
      subst e9
      refine lv_iload hx hb dX10_makeNode_11 (lv_at hl 0 rfl) ?_
      refine lv_bipush (v := 31) hx hb dX10_makeNode_13 (by decide) ?_
      refine lv_icmp_ge (tgt := 33) hx hb dX10_makeNode_15 (by decide) (fun c9 => ?_) (fun c9 => absurd (by decide) c9)
      exact rest u H locs hz hP hD hS ls hl
    | succ j ih =>
      intro i hi u H locs hz hP hD hS ls hl
      have hlt : i < 31 := by omega
      refine lv_iload hx hb dX10_makeNode_11 (lv_at hl 0 rfl) ?_
      refine lv_bipush (v := 31) hx hb dX10_makeNode_13 (by decide) ?_
      refine lv_icmp_ge (tgt := 33) hx hb dX10_makeNode_15 (by decide) (fun c9 => absurd c9 (show ¬ (nI 31 ≤ nI i) from nI_ge hlt (by decide))) (fun c9 => ?_)
      refine lv_aload_n hx hb dX10_makeNode_18 rfl (lv_at hl 2 rfl) ?_
      refine lv_iload hx hb dX10_makeNode_19 (lv_at hl 1 rfl) ?_
      refine lv_iload hx hb dX10_makeNode_21 (lv_at hl 0 rfl) ?_
      refine lv_iconst (v := 0) hx hb dX10_makeNode_23 (by decide) ?_
      refine fz_cVv (As := [.int 1, .int (nI i), .int 0]) (rest := []) S0 (m_setk l A D k q (va_up f 1 u) pa v 1 i (by decide) hlt) (fz_cwV (C := RX10) 3 hts fm_485 fm_486 fm_487 fm_488 fm_469 rfl rfl ⟨by decide, by decide, by decide +kernel⟩ ⟨Nat.le_of_ble_eq_true rfl, Nat.le_of_ble_eq_true rfl⟩) (va_recv hK hP (ci := 14) (q0 := 0) rfl rfl) (fun _ h9 => h9) (fun a9 h9 => hA a9 (Nat.le_trans hS.1 h9)) hG hS hP hK hD rfl hl.1 rfl (Nat.le_of_ble_eq_true rfl) dX10_makeNode_24 ⟨Nat.le_of_ble_eq_true rfl, Nat.le_of_ble_eq_true rfl⟩ (fun u_9 H locs hw hz1 hk1 hP hS => ?_)
      have hP : va_P D vwCl (fz_WM k q (va_up f 1 (upd u (7 + 1 * 31 + i) 0)) pa v) H := hP
      have hD : va_D A (fz_WM k q (va_up f 1 (upd u (7 + 1 * 31 + i) 0)) pa v) := fz_Dsame hD rfl
      refine lv_iinc (v := nI (i + 1)) (lv' := [(7, .int (nI (i + 1))), (6, .int 1), (0, .ref (q 0)), (1, .int 0), (2, .int p1), (3, .int p2), (4, .int p3), (5, .int p4)]) hx hb dX10_makeNode_27 hl (k := 0) rfl (nI_1 i) (by decide) rfl (fun ls hl => ?_)
      refine lv_goto (tgt := 11) hx hb dX10_makeNode_30 (by decide) ?_
      exact ih (i + 1) (by omega) (upd u (7 + 1 * 31 + i) 0) H locs (fun z h9 => by unfold upd; rw [if_neg (by omega)]; exact hz z h9) hP hD hS ls hl
  exact loop 31 0 rfl (f 1) _ _ (fun _ _ => rfl) hP hD hS ls hl

set_option maxHeartbeats 4000000 in
set_option maxRecDepth 100000 in
theorem m_makeNode0 (l : Launch) (A : Nat → Prop) (D : va_G) (k : Nat → ClassId) (q : Nat → Nat) (f : Nat → Nat → Int32) (pa : Nat → Option Nat) (v : Nat → Int32) (g_f_1_0 : f 1 0 = 0) (g_f_1_1 : f 1 1 = 0) (g_f_1_2 : f 1 2 = 0) (g_f_1_3 : f 1 3 = 0) (g_f_1_4 : f 1 4 = 0) (g_f_1_5 : f 1 5 = 3) (g_f_1_6 : f 1 6 = 0)  :
    Met l yX10_makeNode (fz_ws yX10_makeNode cX10_makeNode 8 (some .int)) { frames := 24, cells := 0, slots := 0, locals := 320 } (va_Pc [.ref (q 0), .int (-1), .int 0, .int 0, .int (-1), .int (-1)] (fz_PC A D (fz_tys k) (fz_WM k q f pa v))) (fz_QI D A (fun (u : Nat → Int32) => fz_WM k q (va_up f 1 u) pa v) (fun (r : Int32) (u : Nat → Int32) => r = 0 ∧ u 0 = 1 ∧ u 1 = 1 ∧ u 2 = 0 ∧ u 3 = 0 ∧ u 4 = 0 ∧ u 5 = 3 ∧ u 6 = 0 ∧ u 7 = 1 ∧ u 8 = 0 ∧ u 9 = (-1) ∧ u 10 = 0 ∧ u 11 = (-1) ∧ u 12 = (-1) ∧ u 13 = (-1) ∧ u 15 = (-1) ∧ u 16 = (-1) ∧ u 17 = 0)) 0 0 A := by
  refine fz_of (by decide +kernel) (Nat.le_of_ble_eq_true rfl) ?_
  intro p e s m below meth c hx hb hr hml hown hlocks hts hin hA hP hK hD hG hS ls hl
  have hown : s.vm.findClass RX10 = some m.cls := hown
  have S0 : CallFix p m c cX10_makeNode 8 s [.ref (q 0), .int (-1), .int 0, .int 0, .int (-1), .int (-1)].toArray (fz_ws yX10_makeNode cX10_makeNode 8 (some .int)) RX10 := ⟨hx, hb, hml, hown, hts⟩
  have hl : lv_has ls 8 [(0, .ref (q 0)), (1, .int (-1)), (2, .int 0), (3, .int 0), (4, .int (-1)), (5, .int (-1))] := hl
  refine lv_aload_n hx hb dX10_makeNode_0 rfl (lv_at hl 0 rfl) ?_
  refine va_get (D := D) (ci := 14) (v := .ref (q 1)) (C := RX10) (T := TX10) (N := 22) hx hb hts (fun w9 h9 => fz_m (fin_X10 w9 h9)) hown hK hP 0 rfl rfl 1 (by decide) (hts _ (fz_m fm_462)) (fun _ h9 => h9) rfl dX10_makeNode_1 ?_
  refine lv_iconst (v := 0) hx hb dX10_makeNode_4 (by decide) ?_
  refine va_iald hx hb hK hP 1 0 rfl rfl (fz_vin (by decide)) dX10_makeNode_5 ?_
  refine fz_I (y := 0) g_f_1_0 ?_
  refine lv_istore (lv' := [(6, .int 0), (0, .ref (q 0)), (1, .int (-1)), (2, .int 0), (3, .int 0), (4, .int (-1)), (5, .int (-1))]) hx hb dX10_makeNode_6 hl (by decide) rfl (fun ls hl => ?_)
  refine lv_iconst (v := 0) hx hb dX10_makeNode_8 (by decide) ?_
  refine lv_istore (lv' := [(7, .int 0), (6, .int 0), (0, .ref (q 0)), (1, .int (-1)), (2, .int 0), (3, .int 0), (4, .int (-1)), (5, .int (-1))]) hx hb dX10_makeNode_9 hl (by decide) rfl (fun ls hl => ?_)
  have rest : ∀ (u : Nat → Int32) (H : Heap) (locs : List Loc), (∀ z, z < 7 → u z = f 1 z) → va_P D vwCl (fz_WM k q (va_up f 1 u) pa v) H → va_D A (fz_WM k q (va_up f 1 u) pa v) → va_S A s.heap H locs → ∀ ls : Array Slot, lv_has ls 8 [(7, .int (nI 31)), (6, .int 0), (0, .ref (q 0)), (1, .int (-1)), (2, .int 0), (3, .int 0), (4, .int (-1)), (5, .int (-1))] → W p l e { frames := 24, cells := 0, slots := 0, locals := 320 } s m [.ref (q 0), .int (-1), .int 0, .int 0, .int (-1), .int (-1)].toArray below meth c H locs 0 0 (MQ below (fz_QI D A (fun (u : Nat → Int32) => fz_WM k q (va_up f 1 u) pa v) (fun (r : Int32) (u : Nat → Int32) => r = 0 ∧ u 0 = 1 ∧ u 1 = 1 ∧ u 2 = 0 ∧ u 3 = 0 ∧ u 4 = 0 ∧ u 5 = 3 ∧ u 6 = 0 ∧ u 7 = 1 ∧ u 8 = 0 ∧ u 9 = (-1) ∧ u 10 = 0 ∧ u 11 = (-1) ∧ u 12 = (-1) ∧ u 13 = (-1) ∧ u 15 = (-1) ∧ u 16 = (-1) ∧ u 17 = 0)) [.ref (q 0), .int (-1), .int 0, .int 0, .int (-1), .int (-1)].toArray s 0 0 A) (F0 m 33 ls []) := by
    intro u_l H locs hz_l hP hD hS ls hl
    refine lv_aload_n hx hb dX10_makeNode_33 rfl (lv_at hl 2 rfl) ?_
    refine lv_iload hx hb dX10_makeNode_34 (lv_at hl 1 rfl) ?_
    refine lv_iconst (v := 0) hx hb dX10_makeNode_36 (by decide) ?_
    refine lv_iconst (v := 1) hx hb dX10_makeNode_37 (by decide) ?_
    refine fz_cVv (As := [.int 0, .int 0, .int 1]) (rest := []) S0 (m_set0_0 l A D k q (va_up f 1 u_l) pa v 1) (fz_cwV (C := RX10) 3 hts fm_485 fm_486 fm_487 fm_488 fm_469 rfl rfl ⟨by decide, by decide, by decide +kernel⟩ ⟨Nat.le_of_ble_eq_true rfl, Nat.le_of_ble_eq_true rfl⟩) (va_recv hK hP (ci := 14) (q0 := 0) rfl rfl) (fun _ h9 => h9) (fun a9 h9 => hA a9 (Nat.le_trans hS.1 h9)) hG hS hP hK hD rfl hl.1 rfl (Nat.le_of_ble_eq_true rfl) dX10_makeNode_38 ⟨Nat.le_of_ble_eq_true rfl, Nat.le_of_ble_eq_true rfl⟩ (fun u_1 H locs hw hz1 hk1 hP hS => ?_)
    have hP : va_P D vwCl (fz_WM k q (va_up f 1 (upd u_l 7 1)) pa v) H := hP
    have hD : va_D A (fz_WM k q (va_up f 1 (upd u_l 7 1)) pa v) := fz_Dsame hD rfl
    refine lv_aload_n hx hb dX10_makeNode_41 rfl (lv_at hl 2 rfl) ?_
    refine lv_iload hx hb dX10_makeNode_42 (lv_at hl 1 rfl) ?_
    refine lv_iconst (v := 1) hx hb dX10_makeNode_44 (by decide) ?_
    refine lv_iload_n hx hb dX10_makeNode_45 rfl (lv_at hl 4 rfl) ?_
    refine fz_cVv (As := [.int 0, .int 1, .int 0]) (rest := []) S0 (m_set0_1 l A D k q (va_up f 1 (upd u_l 7 1)) pa v 0) (fz_cwV (C := RX10) 3 hts fm_485 fm_486 fm_487 fm_488 fm_469 rfl rfl ⟨by decide, by decide, by decide +kernel⟩ ⟨Nat.le_of_ble_eq_true rfl, Nat.le_of_ble_eq_true rfl⟩) (va_recv hK hP (ci := 14) (q0 := 0) rfl rfl) (fun _ h9 => h9) (fun a9 h9 => hA a9 (Nat.le_trans hS.1 h9)) hG hS hP hK hD rfl hl.1 rfl (Nat.le_of_ble_eq_true rfl) dX10_makeNode_46 ⟨Nat.le_of_ble_eq_true rfl, Nat.le_of_ble_eq_true rfl⟩ (fun u_2 H locs hw hz1 hk1 hP hS => ?_)
    have hP : va_P D vwCl (fz_WM k q (va_up f 1 (upd (upd u_l 7 1) 8 0)) pa v) H := hP
    have hD : va_D A (fz_WM k q (va_up f 1 (upd (upd u_l 7 1) 8 0)) pa v) := fz_Dsame hD rfl
    refine lv_aload_n hx hb dX10_makeNode_49 rfl (lv_at hl 2 rfl) ?_
    refine lv_iload hx hb dX10_makeNode_50 (lv_at hl 1 rfl) ?_
    refine lv_iconst (v := 2) hx hb dX10_makeNode_52 (by decide) ?_
    refine lv_iload_n hx hb dX10_makeNode_53 rfl (lv_at hl 3 rfl) ?_
    refine fz_cVv (As := [.int 0, .int 2, .int (-1)]) (rest := []) S0 (m_set0_2 l A D k q (va_up f 1 (upd (upd u_l 7 1) 8 0)) pa v (-1)) (fz_cwV (C := RX10) 3 hts fm_485 fm_486 fm_487 fm_488 fm_469 rfl rfl ⟨by decide, by decide, by decide +kernel⟩ ⟨Nat.le_of_ble_eq_true rfl, Nat.le_of_ble_eq_true rfl⟩) (va_recv hK hP (ci := 14) (q0 := 0) rfl rfl) (fun _ h9 => h9) (fun a9 h9 => hA a9 (Nat.le_trans hS.1 h9)) hG hS hP hK hD rfl hl.1 rfl (Nat.le_of_ble_eq_true rfl) dX10_makeNode_54 ⟨Nat.le_of_ble_eq_true rfl, Nat.le_of_ble_eq_true rfl⟩ (fun u_3 H locs hw hz1 hk1 hP hS => ?_)
    have hP : va_P D vwCl (fz_WM k q (va_up f 1 (upd (upd (upd u_l 7 1) 8 0) 9 (-1))) pa v) H := hP
    have hD : va_D A (fz_WM k q (va_up f 1 (upd (upd (upd u_l 7 1) 8 0) 9 (-1))) pa v) := fz_Dsame hD rfl
    refine lv_aload_n hx hb dX10_makeNode_57 rfl (lv_at hl 2 rfl) ?_
    refine lv_iload hx hb dX10_makeNode_58 (lv_at hl 1 rfl) ?_
    refine lv_iconst (v := 3) hx hb dX10_makeNode_60 (by decide) ?_
    refine lv_iload_n hx hb dX10_makeNode_61 rfl (lv_at hl 5 rfl) ?_
    refine fz_cVv (As := [.int 0, .int 3, .int 0]) (rest := []) S0 (m_set0_3 l A D k q (va_up f 1 (upd (upd (upd u_l 7 1) 8 0) 9 (-1))) pa v 0) (fz_cwV (C := RX10) 3 hts fm_485 fm_486 fm_487 fm_488 fm_469 rfl rfl ⟨by decide, by decide, by decide +kernel⟩ ⟨Nat.le_of_ble_eq_true rfl, Nat.le_of_ble_eq_true rfl⟩) (va_recv hK hP (ci := 14) (q0 := 0) rfl rfl) (fun _ h9 => h9) (fun a9 h9 => hA a9 (Nat.le_trans hS.1 h9)) hG hS hP hK hD rfl hl.1 rfl (Nat.le_of_ble_eq_true rfl) dX10_makeNode_62 ⟨Nat.le_of_ble_eq_true rfl, Nat.le_of_ble_eq_true rfl⟩ (fun u_4 H locs hw hz1 hk1 hP hS => ?_)
    have hP : va_P D vwCl (fz_WM k q (va_up f 1 (upd (upd (upd (upd u_l 7 1) 8 0) 9 (-1)) 10 0)) pa v) H := hP
    have hD : va_D A (fz_WM k q (va_up f 1 (upd (upd (upd (upd u_l 7 1) 8 0) 9 (-1)) 10 0)) pa v) := fz_Dsame hD rfl
    refine lv_aload_n hx hb dX10_makeNode_65 rfl (lv_at hl 2 rfl) ?_
    refine lv_iload hx hb dX10_makeNode_66 (lv_at hl 1 rfl) ?_
    refine lv_iconst (v := 4) hx hb dX10_makeNode_68 (by decide) ?_
    refine lv_iload hx hb dX10_makeNode_69 (lv_at hl 6 rfl) ?_
    refine fz_cVv (As := [.int 0, .int 4, .int (-1)]) (rest := []) S0 (m_set0_4 l A D k q (va_up f 1 (upd (upd (upd (upd u_l 7 1) 8 0) 9 (-1)) 10 0)) pa v (-1)) (fz_cwV (C := RX10) 3 hts fm_485 fm_486 fm_487 fm_488 fm_469 rfl rfl ⟨by decide, by decide, by decide +kernel⟩ ⟨Nat.le_of_ble_eq_true rfl, Nat.le_of_ble_eq_true rfl⟩) (va_recv hK hP (ci := 14) (q0 := 0) rfl rfl) (fun _ h9 => h9) (fun a9 h9 => hA a9 (Nat.le_trans hS.1 h9)) hG hS hP hK hD rfl hl.1 rfl (Nat.le_of_ble_eq_true rfl) dX10_makeNode_71 ⟨Nat.le_of_ble_eq_true rfl, Nat.le_of_ble_eq_true rfl⟩ (fun u_5 H locs hw hz1 hk1 hP hS => ?_)
    have hP : va_P D vwCl (fz_WM k q (va_up f 1 (upd (upd (upd (upd (upd u_l 7 1) 8 0) 9 (-1)) 10 0) 11 (-1))) pa v) H := hP
    have hD : va_D A (fz_WM k q (va_up f 1 (upd (upd (upd (upd (upd u_l 7 1) 8 0) 9 (-1)) 10 0) 11 (-1))) pa v) := fz_Dsame hD rfl
    refine lv_aload_n hx hb dX10_makeNode_74 rfl (lv_at hl 2 rfl) ?_
    refine lv_iload hx hb dX10_makeNode_75 (lv_at hl 1 rfl) ?_
    refine lv_iconst (v := 5) hx hb dX10_makeNode_77 (by decide) ?_
    refine lv_iload hx hb dX10_makeNode_78 (lv_at hl 6 rfl) ?_
    refine lv_if_ge (tgt := 87) hx hb dX10_makeNode_80 (by decide) (fun c_6 => absurd c_6 (by decide)) (fun c_6 => ?_)
    refine lv_iconst (v := (-1)) hx hb dX10_makeNode_83 (by decide) ?_
    refine lv_goto (tgt := 89) hx hb dX10_makeNode_84 (by decide) ?_
    refine fz_cVv (As := [.int 0, .int 5, .int (-1)]) (rest := []) S0 (m_set0_5 l A D k q (va_up f 1 (upd (upd (upd (upd (upd u_l 7 1) 8 0) 9 (-1)) 10 0) 11 (-1))) pa v (-1)) (fz_cwV (C := RX10) 3 hts fm_485 fm_486 fm_487 fm_488 fm_469 rfl rfl ⟨by decide, by decide, by decide +kernel⟩ ⟨Nat.le_of_ble_eq_true rfl, Nat.le_of_ble_eq_true rfl⟩) (va_recv hK hP (ci := 14) (q0 := 0) rfl rfl) (fun _ h9 => h9) (fun a9 h9 => hA a9 (Nat.le_trans hS.1 h9)) hG hS hP hK hD rfl hl.1 rfl (Nat.le_of_ble_eq_true rfl) dX10_makeNode_89 ⟨Nat.le_of_ble_eq_true rfl, Nat.le_of_ble_eq_true rfl⟩ (fun u_7 H locs hw hz1 hk1 hP hS => ?_)
    have hP : va_P D vwCl (fz_WM k q (va_up f 1 (upd (upd (upd (upd (upd (upd u_l 7 1) 8 0) 9 (-1)) 10 0) 11 (-1)) 12 (-1))) pa v) H := hP
    have hD : va_D A (fz_WM k q (va_up f 1 (upd (upd (upd (upd (upd (upd u_l 7 1) 8 0) 9 (-1)) 10 0) 11 (-1)) 12 (-1))) pa v) := fz_Dsame hD rfl
    refine lv_aload_n hx hb dX10_makeNode_92 rfl (lv_at hl 2 rfl) ?_
    refine lv_iload hx hb dX10_makeNode_93 (lv_at hl 1 rfl) ?_
    refine lv_bipush (v := 6) hx hb dX10_makeNode_95 (by decide) ?_
    refine lv_iconst (v := (-1)) hx hb dX10_makeNode_97 (by decide) ?_
    refine fz_cVv (As := [.int 0, .int 6, .int (-1)]) (rest := []) S0 (m_set0_6 l A D k q (va_up f 1 (upd (upd (upd (upd (upd (upd u_l 7 1) 8 0) 9 (-1)) 10 0) 11 (-1)) 12 (-1))) pa v (-1)) (fz_cwV (C := RX10) 3 hts fm_485 fm_486 fm_487 fm_488 fm_469 rfl rfl ⟨by decide, by decide, by decide +kernel⟩ ⟨Nat.le_of_ble_eq_true rfl, Nat.le_of_ble_eq_true rfl⟩) (va_recv hK hP (ci := 14) (q0 := 0) rfl rfl) (fun _ h9 => h9) (fun a9 h9 => hA a9 (Nat.le_trans hS.1 h9)) hG hS hP hK hD rfl hl.1 rfl (Nat.le_of_ble_eq_true rfl) dX10_makeNode_98 ⟨Nat.le_of_ble_eq_true rfl, Nat.le_of_ble_eq_true rfl⟩ (fun u_8 H locs hw hz1 hk1 hP hS => ?_)
    have hP : va_P D vwCl (fz_WM k q (va_up f 1 (upd (upd (upd (upd (upd (upd (upd u_l 7 1) 8 0) 9 (-1)) 10 0) 11 (-1)) 12 (-1)) 13 (-1))) pa v) H := hP
    have hD : va_D A (fz_WM k q (va_up f 1 (upd (upd (upd (upd (upd (upd (upd u_l 7 1) 8 0) 9 (-1)) 10 0) 11 (-1)) 12 (-1)) 13 (-1))) pa v) := fz_Dsame hD rfl
    refine lv_aload_n hx hb dX10_makeNode_101 rfl (lv_at hl 2 rfl) ?_
    refine lv_iload hx hb dX10_makeNode_102 (lv_at hl 1 rfl) ?_
    refine lv_bipush (v := 8) hx hb dX10_makeNode_104 (by decide) ?_
    refine lv_iconst (v := (-1)) hx hb dX10_makeNode_106 (by decide) ?_
    refine fz_cVv (As := [.int 0, .int 8, .int (-1)]) (rest := []) S0 (m_set0_8 l A D k q (va_up f 1 (upd (upd (upd (upd (upd (upd (upd u_l 7 1) 8 0) 9 (-1)) 10 0) 11 (-1)) 12 (-1)) 13 (-1))) pa v (-1)) (fz_cwV (C := RX10) 3 hts fm_485 fm_486 fm_487 fm_488 fm_469 rfl rfl ⟨by decide, by decide, by decide +kernel⟩ ⟨Nat.le_of_ble_eq_true rfl, Nat.le_of_ble_eq_true rfl⟩) (va_recv hK hP (ci := 14) (q0 := 0) rfl rfl) (fun _ h9 => h9) (fun a9 h9 => hA a9 (Nat.le_trans hS.1 h9)) hG hS hP hK hD rfl hl.1 rfl (Nat.le_of_ble_eq_true rfl) dX10_makeNode_107 ⟨Nat.le_of_ble_eq_true rfl, Nat.le_of_ble_eq_true rfl⟩ (fun u_9 H locs hw hz1 hk1 hP hS => ?_)
    have hP : va_P D vwCl (fz_WM k q (va_up f 1 (upd (upd (upd (upd (upd (upd (upd (upd u_l 7 1) 8 0) 9 (-1)) 10 0) 11 (-1)) 12 (-1)) 13 (-1)) 15 (-1))) pa v) H := hP
    have hD : va_D A (fz_WM k q (va_up f 1 (upd (upd (upd (upd (upd (upd (upd (upd u_l 7 1) 8 0) 9 (-1)) 10 0) 11 (-1)) 12 (-1)) 13 (-1)) 15 (-1))) pa v) := fz_Dsame hD rfl
    refine lv_aload_n hx hb dX10_makeNode_110 rfl (lv_at hl 2 rfl) ?_
    refine lv_iload hx hb dX10_makeNode_111 (lv_at hl 1 rfl) ?_
    refine lv_bipush (v := 9) hx hb dX10_makeNode_113 (by decide) ?_
    refine lv_iconst (v := (-1)) hx hb dX10_makeNode_115 (by decide) ?_
    refine fz_cVv (As := [.int 0, .int 9, .int (-1)]) (rest := []) S0 (m_set0_9 l A D k q (va_up f 1 (upd (upd (upd (upd (upd (upd (upd (upd u_l 7 1) 8 0) 9 (-1)) 10 0) 11 (-1)) 12 (-1)) 13 (-1)) 15 (-1))) pa v (-1)) (fz_cwV (C := RX10) 3 hts fm_485 fm_486 fm_487 fm_488 fm_469 rfl rfl ⟨by decide, by decide, by decide +kernel⟩ ⟨Nat.le_of_ble_eq_true rfl, Nat.le_of_ble_eq_true rfl⟩) (va_recv hK hP (ci := 14) (q0 := 0) rfl rfl) (fun _ h9 => h9) (fun a9 h9 => hA a9 (Nat.le_trans hS.1 h9)) hG hS hP hK hD rfl hl.1 rfl (Nat.le_of_ble_eq_true rfl) dX10_makeNode_116 ⟨Nat.le_of_ble_eq_true rfl, Nat.le_of_ble_eq_true rfl⟩ (fun u_10 H locs hw hz1 hk1 hP hS => ?_)
    have hP : va_P D vwCl (fz_WM k q (va_up f 1 (upd (upd (upd (upd (upd (upd (upd (upd (upd u_l 7 1) 8 0) 9 (-1)) 10 0) 11 (-1)) 12 (-1)) 13 (-1)) 15 (-1)) 16 (-1))) pa v) H := hP
    have hD : va_D A (fz_WM k q (va_up f 1 (upd (upd (upd (upd (upd (upd (upd (upd (upd u_l 7 1) 8 0) 9 (-1)) 10 0) 11 (-1)) 12 (-1)) 13 (-1)) 15 (-1)) 16 (-1))) pa v) := fz_Dsame hD rfl
    refine lv_aload_n hx hb dX10_makeNode_119 rfl (lv_at hl 2 rfl) ?_
    refine lv_iload hx hb dX10_makeNode_120 (lv_at hl 1 rfl) ?_
    refine lv_bipush (v := 10) hx hb dX10_makeNode_122 (by decide) ?_
    refine lv_aload_n hx hb dX10_makeNode_124 rfl (lv_at hl 2 rfl) ?_
    refine va_get (D := D) (ci := 14) (v := .ref (q 1)) (C := RX10) (T := TX10) (N := 22) hx hb hts (fun w9 h9 => fz_m (fin_X10 w9 h9)) hown hK hP 0 rfl rfl 1 (by decide) (hts _ (fz_m fm_462)) (fun _ h9 => h9) rfl dX10_makeNode_125 ?_
    refine lv_iconst (v := 1) hx hb dX10_makeNode_128 (by decide) ?_
    refine va_iald hx hb hK hP 1 0 rfl rfl (fz_vin (by decide)) dX10_makeNode_129 ?_
    refine fz_I (y := 0) ((hz_l 1 (by decide)).trans g_f_1_1) ?_
    refine fz_cVv (As := [.int 0, .int 10, .int 0]) (rest := []) S0 (m_set0_10 l A D k q (va_up f 1 (upd (upd (upd (upd (upd (upd (upd (upd (upd u_l 7 1) 8 0) 9 (-1)) 10 0) 11 (-1)) 12 (-1)) 13 (-1)) 15 (-1)) 16 (-1))) pa v 0) (fz_cwV (C := RX10) 3 hts fm_485 fm_486 fm_487 fm_488 fm_469 rfl rfl ⟨by decide, by decide, by decide +kernel⟩ ⟨Nat.le_of_ble_eq_true rfl, Nat.le_of_ble_eq_true rfl⟩) (va_recv hK hP (ci := 14) (q0 := 0) rfl rfl) (fun _ h9 => h9) (fun a9 h9 => hA a9 (Nat.le_trans hS.1 h9)) hG hS hP hK hD rfl hl.1 rfl (Nat.le_of_ble_eq_true rfl) dX10_makeNode_130 ⟨Nat.le_of_ble_eq_true rfl, Nat.le_of_ble_eq_true rfl⟩ (fun u_11 H locs hw hz1 hk1 hP hS => ?_)
    have hP : va_P D vwCl (fz_WM k q (va_up f 1 (upd (upd (upd (upd (upd (upd (upd (upd (upd (upd u_l 7 1) 8 0) 9 (-1)) 10 0) 11 (-1)) 12 (-1)) 13 (-1)) 15 (-1)) 16 (-1)) 17 0)) pa v) H := hP
    have hD : va_D A (fz_WM k q (va_up f 1 (upd (upd (upd (upd (upd (upd (upd (upd (upd (upd u_l 7 1) 8 0) 9 (-1)) 10 0) 11 (-1)) 12 (-1)) 13 (-1)) 15 (-1)) 16 (-1)) 17 0)) pa v) := fz_Dsame hD rfl
    refine lv_aload_n hx hb dX10_makeNode_133 rfl (lv_at hl 2 rfl) ?_
    refine va_get (D := D) (ci := 14) (v := .ref (q 1)) (C := RX10) (T := TX10) (N := 22) hx hb hts (fun w9 h9 => fz_m (fin_X10 w9 h9)) hown hK hP 0 rfl rfl 1 (by decide) (hts _ (fz_m fm_462)) (fun _ h9 => h9) rfl dX10_makeNode_134 ?_
    refine lv_iconst (v := 0) hx hb dX10_makeNode_137 (by decide) ?_
    refine lv_dup2_11 hx hb dX10_makeNode_138 rfl rfl ?_
    refine va_iald hx hb hK hP 1 0 rfl rfl (fz_vin (by decide)) dX10_makeNode_139 ?_
    refine fz_I (y := 0) ((hz_l 0 (by decide)).trans g_f_1_0) ?_
    refine lv_iconst (v := 1) hx hb dX10_makeNode_140 (by decide) ?_
    refine lv_iadd hx hb dX10_makeNode_141 ?_
    refine fz_I (y := 1) (by decide) ?_
    refine va_iast hx hb hK hP hD hS 1 0 rfl rfl (fz_vin (by decide)) dX10_makeNode_142 (fun H locs hP hD hS => ?_)
    have hP : va_P D vwCl (fz_WM k q (va_up f 1 (upd (upd (upd (upd (upd (upd (upd (upd (upd (upd (upd u_l 7 1) 8 0) 9 (-1)) 10 0) 11 (-1)) 12 (-1)) 13 (-1)) 15 (-1)) 16 (-1)) 17 0) 0 1)) pa v) H := hP
    have hD : va_D A (fz_WM k q (va_up f 1 (upd (upd (upd (upd (upd (upd (upd (upd (upd (upd (upd u_l 7 1) 8 0) 9 (-1)) 10 0) 11 (-1)) 12 (-1)) 13 (-1)) 15 (-1)) 16 (-1)) 17 0) 0 1)) pa v) := hD
    refine lv_aload_n hx hb dX10_makeNode_143 rfl (lv_at hl 2 rfl) ?_
    refine va_get (D := D) (ci := 14) (v := .ref (q 1)) (C := RX10) (T := TX10) (N := 22) hx hb hts (fun w9 h9 => fz_m (fin_X10 w9 h9)) hown hK hP 0 rfl rfl 1 (by decide) (hts _ (fz_m fm_462)) (fun _ h9 => h9) rfl dX10_makeNode_144 ?_
    refine lv_iconst (v := 1) hx hb dX10_makeNode_147 (by decide) ?_
    refine lv_dup2_11 hx hb dX10_makeNode_148 rfl rfl ?_
    refine va_iald hx hb hK hP 1 0 rfl rfl (fz_vin (by decide)) dX10_makeNode_149 ?_
    refine fz_I (y := 0) ((hz_l 1 (by decide)).trans g_f_1_1) ?_
    refine lv_iconst (v := 1) hx hb dX10_makeNode_150 (by decide) ?_
    refine lv_iadd hx hb dX10_makeNode_151 ?_
    refine fz_I (y := 1) (by decide) ?_
    refine va_iast hx hb hK hP hD hS 1 0 rfl rfl (fz_vin (by decide)) dX10_makeNode_152 (fun H locs hP hD hS => ?_)
    have hP : va_P D vwCl (fz_WM k q (va_up f 1 (upd (upd (upd (upd (upd (upd (upd (upd (upd (upd (upd (upd u_l 7 1) 8 0) 9 (-1)) 10 0) 11 (-1)) 12 (-1)) 13 (-1)) 15 (-1)) 16 (-1)) 17 0) 0 1) 1 1)) pa v) H := hP
    have hD : va_D A (fz_WM k q (va_up f 1 (upd (upd (upd (upd (upd (upd (upd (upd (upd (upd (upd (upd u_l 7 1) 8 0) 9 (-1)) 10 0) 11 (-1)) 12 (-1)) 13 (-1)) 15 (-1)) 16 (-1)) 17 0) 0 1) 1 1)) pa v) := hD
    refine lv_iload hx hb dX10_makeNode_153 (lv_at hl 1 rfl) ?_
    exact fz_iret hx hb hr rfl hlocks hS dX10_makeNode_155 (upd (upd (upd (upd (upd (upd (upd (upd (upd (upd (upd (upd u_l 7 1) 8 0) 9 (-1)) 10 0) 11 (-1)) 12 (-1)) 13 (-1)) 15 (-1)) 16 (-1)) 17 0) 0 1) 1 1) ⟨rfl, rfl, rfl, ((hz_l 2 (by decide)).trans g_f_1_2), ((hz_l 3 (by decide)).trans g_f_1_3), ((hz_l 4 (by decide)).trans g_f_1_4), ((hz_l 5 (by decide)).trans g_f_1_5), ((hz_l 6 (by decide)).trans g_f_1_6), rfl, rfl, rfl, rfl, rfl, rfl, rfl, rfl, rfl, rfl⟩ hP (Nat.le_of_ble_eq_true rfl) (Nat.le_of_ble_eq_true rfl)
  have loop : ∀ (j i : Nat), i + j = 31 → ∀ (u : Nat → Int32) (H : Heap) (locs : List Loc), (∀ z, z < 7 → u z = f 1 z) → va_P D vwCl (fz_WM k q (va_up f 1 u) pa v) H → va_D A (fz_WM k q (va_up f 1 u) pa v) → va_S A s.heap H locs → ∀ ls : Array Slot, lv_has ls 8 [(7, .int (nI i)), (6, .int 0), (0, .ref (q 0)), (1, .int (-1)), (2, .int 0), (3, .int 0), (4, .int (-1)), (5, .int (-1))] → W p l e { frames := 24, cells := 0, slots := 0, locals := 320 } s m [.ref (q 0), .int (-1), .int 0, .int 0, .int (-1), .int (-1)].toArray below meth c H locs 0 0 (MQ below (fz_QI D A (fun (u : Nat → Int32) => fz_WM k q (va_up f 1 u) pa v) (fun (r : Int32) (u : Nat → Int32) => r = 0 ∧ u 0 = 1 ∧ u 1 = 1 ∧ u 2 = 0 ∧ u 3 = 0 ∧ u 4 = 0 ∧ u 5 = 3 ∧ u 6 = 0 ∧ u 7 = 1 ∧ u 8 = 0 ∧ u 9 = (-1) ∧ u 10 = 0 ∧ u 11 = (-1) ∧ u 12 = (-1) ∧ u 13 = (-1) ∧ u 15 = (-1) ∧ u 16 = (-1) ∧ u 17 = 0)) [.ref (q 0), .int (-1), .int 0, .int 0, .int (-1), .int (-1)].toArray s 0 0 A) (F0 m 11 ls []) := by
    intro j
    induction j with
    | zero =>
      intro i hi u H locs hz hP hD hS ls hl
      have e9 : i = 31 := by omega
      subst e9
      refine lv_iload hx hb dX10_makeNode_11 (lv_at hl 0 rfl) ?_
      refine lv_bipush (v := 31) hx hb dX10_makeNode_13 (by decide) ?_
      refine lv_icmp_ge (tgt := 33) hx hb dX10_makeNode_15 (by decide) (fun c9 => ?_) (fun c9 => absurd (by decide) c9)
      exact rest u H locs hz hP hD hS ls hl
    | succ j ih =>
      intro i hi u H locs hz hP hD hS ls hl
      have hlt : i < 31 := by omega
      refine lv_iload hx hb dX10_makeNode_11 (lv_at hl 0 rfl) ?_
      refine lv_bipush (v := 31) hx hb dX10_makeNode_13 (by decide) ?_
      refine lv_icmp_ge (tgt := 33) hx hb dX10_makeNode_15 (by decide) (fun c9 => absurd c9 (show ¬ (nI 31 ≤ nI i) from nI_ge hlt (by decide))) (fun c9 => ?_)
      refine lv_aload_n hx hb dX10_makeNode_18 rfl (lv_at hl 2 rfl) ?_
      refine lv_iload hx hb dX10_makeNode_19 (lv_at hl 1 rfl) ?_
      refine lv_iload hx hb dX10_makeNode_21 (lv_at hl 0 rfl) ?_
      refine lv_iconst (v := 0) hx hb dX10_makeNode_23 (by decide) ?_
      refine fz_cVv (As := [.int 0, .int (nI i), .int 0]) (rest := []) S0 (m_setk l A D k q (va_up f 1 u) pa v 0 i (by decide) hlt) (fz_cwV (C := RX10) 3 hts fm_485 fm_486 fm_487 fm_488 fm_469 rfl rfl ⟨by decide, by decide, by decide +kernel⟩ ⟨Nat.le_of_ble_eq_true rfl, Nat.le_of_ble_eq_true rfl⟩) (va_recv hK hP (ci := 14) (q0 := 0) rfl rfl) (fun _ h9 => h9) (fun a9 h9 => hA a9 (Nat.le_trans hS.1 h9)) hG hS hP hK hD rfl hl.1 rfl (Nat.le_of_ble_eq_true rfl) dX10_makeNode_24 ⟨Nat.le_of_ble_eq_true rfl, Nat.le_of_ble_eq_true rfl⟩ (fun u_9 H locs hw hz1 hk1 hP hS => ?_)
      have hP : va_P D vwCl (fz_WM k q (va_up f 1 (upd u (7 + 0 * 31 + i) 0)) pa v) H := hP
      have hD : va_D A (fz_WM k q (va_up f 1 (upd u (7 + 0 * 31 + i) 0)) pa v) := fz_Dsame hD rfl
      refine lv_iinc (v := nI (i + 1)) (lv' := [(7, .int (nI (i + 1))), (6, .int 0), (0, .ref (q 0)), (1, .int (-1)), (2, .int 0), (3, .int 0), (4, .int (-1)), (5, .int (-1))]) hx hb dX10_makeNode_27 hl (k := 0) rfl (nI_1 i) (by decide) rfl (fun ls hl => ?_)
      refine lv_goto (tgt := 11) hx hb dX10_makeNode_30 (by decide) ?_
      exact ih (i + 1) (by omega) (upd u (7 + 0 * 31 + i) 0) H locs (fun z h9 => by unfold upd; rw [if_neg (by omega)]; exact hz z h9) hP hD hS ls hl
  exact loop 31 0 rfl (f 1) _ _ (fun _ _ => rfl) hP hD hS ls hl

set_option maxHeartbeats 4000000 in
set_option maxRecDepth 100000 in
theorem m_isDay (l : Launch) (A : Nat → Prop) (D : va_G) (k : Nat → ClassId) (q : Nat → Nat) (f : Nat → Nat → Int32) (pa : Nat → Option Nat) (v : Nat → Int32) (p0 : Int32)   :
    Met l yX10_isDay (fz_ws yX10_isDay cX10_isDay 1 (some .boolean)) { frames := 12, cells := 0, slots := 0, locals := 160 } (va_Pc [.int p0] (fz_PC A D (fz_tys k) (fz_WM k q f pa v))) (fz_QI D A (fun (_ : Unit) => fz_WM k q f pa v) (fun (r : Int32) (_ : Unit) => (r = 1 ∧ (0 ≤ p0 ∧ p0 ≤ 9999)) ∨ (r = 0 ∧ ¬ ((0 ≤ p0 ∧ p0 ≤ 9999))))) 0 0 A := by
  refine fz_of (by decide +kernel) (Nat.le_of_ble_eq_true rfl) ?_
  intro p e s m below meth c hx hb hr hml hown hlocks hts hin hA hP hK hD hG hS ls hl
  have hown : s.vm.findClass RX10 = some m.cls := hown
  have S0 : CallFix p m c cX10_isDay 1 s [.int p0].toArray (fz_ws yX10_isDay cX10_isDay 1 (some .boolean)) RX10 := ⟨hx, hb, hml, hown, hts⟩
  have hl : lv_has ls 1 [(0, .int p0)] := hl
  refine lv_iload_n hx hb dX10_isDay_0 rfl (lv_at hl 0 rfl) ?_
  refine lv_iconst (v := 0) hx hb dX10_isDay_1 (by decide) ?_
  refine lv_sipush (v := 9999) hx hb dX10_isDay_2 (by decide) ?_
  refine fz_cSi (As := [.int p0, .int 0, .int 9999]) (rest := []) S0 (m_isBetween l A D k q f pa v p0 0 9999) (fz_cwS 3 hts fm_474 fm_475 fm_476 fm_469 rfl rfl ⟨by decide, by decide, by decide +kernel⟩ ⟨Nat.le_of_ble_eq_true rfl, Nat.le_of_ble_eq_true rfl⟩) (fun _ h9 => h9) (fun a9 h9 => hA a9 (Nat.le_trans hS.1 h9)) hG hS hP hK hD rfl hl.1 rfl (Nat.le_of_ble_eq_true rfl) dX10_isDay_5 ⟨Nat.le_of_ble_eq_true rfl, Nat.le_of_ble_eq_true rfl⟩ (fun r_1 u_1 H locs hw hz1 hk1 hP hS => ?_)
  have hP : va_P D vwCl (fz_WM k q f pa v) H := hP
  rcases (show (r_1 = 1 ∧ (0 ≤ p0 ∧ p0 ≤ 9999)) ∨ (r_1 = 0 ∧ ¬ ((0 ≤ p0 ∧ p0 ≤ 9999))) from hw) with ⟨rfl, hq_1⟩ | ⟨rfl, hq_1⟩
  · skip
    exact fz_iret hx hb hr rfl hlocks hS dX10_isDay_8 () (Or.inl ⟨rfl, (fq_33 p0 hq_1)⟩) hP (Nat.le_of_ble_eq_true rfl) (Nat.le_of_ble_eq_true rfl)
  · skip
    exact fz_iret hx hb hr rfl hlocks hS dX10_isDay_8 () (Or.inr ⟨rfl, (fq_34 p0 hq_1)⟩) hP (Nat.le_of_ble_eq_true rfl) (Nat.le_of_ble_eq_true rfl)

set_option maxHeartbeats 4000000 in
set_option maxRecDepth 100000 in
theorem m_isGood (l : Launch) (A : Nat → Prop) (D : va_G) (k : Nat → ClassId) (q : Nat → Nat) (f : Nat → Nat → Int32) (pa : Nat → Option Nat) (v : Nat → Int32) (p1 p2 p3 p4 : Int32) (g_f_1_8 : f 1 8 = 0)  :
    Met l yX10_isGood (fz_ws yX10_isGood cX10_isGood 7 (some .boolean)) { frames := 24, cells := 0, slots := 0, locals := 320 } (va_Pc [.ref (q 0), .int 0, .int p1, .int p2, .int p3, .int p4] (fz_PC A D (fz_tys k) (fz_WM k q f pa v))) (fz_QI D A (fun (_ : Unit) => fz_WM k q f pa v) (fun (r : Int32) (_ : Unit) => (r = 1 ∧ ((1 ≤ p1 ∧ p1 ≤ 3) ∧ 0 ≤ p2 ∧ ((p1 = 1 ∧ p2 ≤ 0) ∨ (¬ (p1 = 1) ∧ p2 ≤ 20)) ∧ (p3 = (-1) ∨ ((0 ≤ p3 ∧ p3 ≤ 9999) ∧ (0 ≤ p4 ∧ p4 ≤ 9999) ∧ p3 ≤ p4)))) ∨ (r = 0 ∧ ¬ (((1 ≤ p1 ∧ p1 ≤ 3) ∧ 0 ≤ p2 ∧ ((p1 = 1 ∧ p2 ≤ 0) ∨ (¬ (p1 = 1) ∧ p2 ≤ 20)) ∧ (p3 = (-1) ∨ ((0 ≤ p3 ∧ p3 ≤ 9999) ∧ (0 ≤ p4 ∧ p4 ≤ 9999) ∧ p3 ≤ p4))))))) 0 0 A := by
  refine fz_of (by decide +kernel) (Nat.le_of_ble_eq_true rfl) ?_
  intro p e s m below meth c hx hb hr hml hown hlocks hts hin hA hP hK hD hG hS ls hl
  have hown : s.vm.findClass RX10 = some m.cls := hown
  have S0 : CallFix p m c cX10_isGood 7 s [.ref (q 0), .int 0, .int p1, .int p2, .int p3, .int p4].toArray (fz_ws yX10_isGood cX10_isGood 7 (some .boolean)) RX10 := ⟨hx, hb, hml, hown, hts⟩
  have hl : lv_has ls 7 [(0, .ref (q 0)), (1, .int 0), (2, .int p1), (3, .int p2), (4, .int p3), (5, .int p4)] := hl
  refine lv_iload hx hb dX10_isGood_0 (lv_at hl 4 rfl) ?_
  refine lv_iconst (v := (-1)) hx hb dX10_isGood_2 (by decide) ?_
  refine lv_icmp_eq (tgt := 29) hx hb dX10_isGood_3 (by decide) (fun c_1 => ?_) (fun c_1 => ?_)
  · skip
    obtain rfl : p3 = (-1) := (fq_11 p3 c_1)
    refine lv_iconst (v := 1) hx hb dX10_isGood_29 (by decide) ?_
    refine lv_goto (tgt := 34) hx hb dX10_isGood_30 (by decide) ?_
    refine lv_istore (lv' := [(6, .int 1), (0, .ref (q 0)), (1, .int 0), (2, .int p1), (3, .int p2), (4, .int (-1)), (5, .int p4)]) hx hb dX10_isGood_34 hl (by decide) rfl (fun ls hl => ?_)
    refine lv_iload_n hx hb dX10_isGood_36 rfl (lv_at hl 3 rfl) ?_
    refine lv_iconst (v := 1) hx hb dX10_isGood_37 (by decide) ?_
    refine lv_iconst (v := 3) hx hb dX10_isGood_38 (by decide) ?_
    refine fz_cSi (As := [.int p1, .int 1, .int 3]) (rest := []) S0 (m_isBetween l A D k q f pa v p1 1 3) (fz_cwS 3 hts fm_474 fm_475 fm_476 fm_469 rfl rfl ⟨by decide, by decide, by decide +kernel⟩ ⟨Nat.le_of_ble_eq_true rfl, Nat.le_of_ble_eq_true rfl⟩) (fun _ h9 => h9) (fun a9 h9 => hA a9 (Nat.le_trans hS.1 h9)) hG hS hP hK hD rfl hl.1 rfl (Nat.le_of_ble_eq_true rfl) dX10_isGood_39 ⟨Nat.le_of_ble_eq_true rfl, Nat.le_of_ble_eq_true rfl⟩ (fun r_2 u_2 H locs hw hz1 hk1 hP hS => ?_)
    have hP : va_P D vwCl (fz_WM k q f pa v) H := hP
    rcases (show (r_2 = 1 ∧ (1 ≤ p1 ∧ p1 ≤ 3)) ∨ (r_2 = 0 ∧ ¬ ((1 ≤ p1 ∧ p1 ≤ 3))) from hw) with ⟨rfl, hq_2⟩ | ⟨rfl, hq_2⟩
    · skip
      refine lv_if_eq (tgt := 83) hx hb dX10_isGood_42 (by decide) (fun c_3 => absurd c_3 (by decide)) (fun c_3 => ?_)
      refine lv_iload_n hx hb dX10_isGood_45 rfl (lv_at hl 3 rfl) ?_
      refine lv_aload_n hx hb dX10_isGood_46 rfl (lv_at hl 1 rfl) ?_
      refine lv_iload_n hx hb dX10_isGood_47 rfl (lv_at hl 2 rfl) ?_
      refine lv_iconst (v := 1) hx hb dX10_isGood_48 (by decide) ?_
      refine fz_cVi (As := [.int 0, .int 1]) (rest := [.int p1]) S0 (m_of1 l A D k q f pa v g_f_1_8) (fz_cwV (C := RX10) 2 hts fm_477 fm_478 fm_479 fm_480 fm_469 rfl rfl ⟨by decide, by decide, by decide +kernel⟩ ⟨Nat.le_of_ble_eq_true rfl, Nat.le_of_ble_eq_true rfl⟩) (va_recv hK hP (ci := 14) (q0 := 0) rfl rfl) (fun _ h9 => h9) (fun a9 h9 => hA a9 (Nat.le_trans hS.1 h9)) hG hS hP hK hD rfl hl.1 rfl (Nat.le_of_ble_eq_true rfl) dX10_isGood_49 ⟨Nat.le_of_ble_eq_true rfl, Nat.le_of_ble_eq_true rfl⟩ (fun r_4 u_4 H locs hw hz1 hk1 hP hS => ?_)
      have hP : va_P D vwCl (fz_WM k q f pa v) H := hP
      obtain rfl : r_4 = 0 := hw
      refine lv_icmp_le (tgt := 83) hx hb dX10_isGood_52 (by decide) (fun c_5 => (fq_103 p1 hq_2 c_5).elim) (fun c_5 => ?_)
      refine lv_iload_n hx hb dX10_isGood_55 rfl (lv_at hl 4 rfl) ?_
      refine lv_iconst (v := 0) hx hb dX10_isGood_56 (by decide) ?_
      refine lv_iload_n hx hb dX10_isGood_57 rfl (lv_at hl 3 rfl) ?_
      refine lv_iconst (v := 1) hx hb dX10_isGood_58 (by decide) ?_
      refine lv_icmp_ne (tgt := 66) hx hb dX10_isGood_59 (by decide) (fun c_6 => ?_) (fun c_6 => ?_)
      · skip
        refine lv_bipush (v := 20) hx hb dX10_isGood_66 (by decide) ?_
        refine fz_cSi (As := [.int p2, .int 0, .int 20]) (rest := []) S0 (m_isBetween l A D k q f pa v p2 0 20) (fz_cwS 3 hts fm_474 fm_475 fm_476 fm_469 rfl rfl ⟨by decide, by decide, by decide +kernel⟩ ⟨Nat.le_of_ble_eq_true rfl, Nat.le_of_ble_eq_true rfl⟩) (fun _ h9 => h9) (fun a9 h9 => hA a9 (Nat.le_trans hS.1 h9)) hG hS hP hK hD rfl hl.1 rfl (Nat.le_of_ble_eq_true rfl) dX10_isGood_68 ⟨Nat.le_of_ble_eq_true rfl, Nat.le_of_ble_eq_true rfl⟩ (fun r_7 u_7 H locs hw hz1 hk1 hP hS => ?_)
        have hP : va_P D vwCl (fz_WM k q f pa v) H := hP
        rcases (show (r_7 = 1 ∧ (0 ≤ p2 ∧ p2 ≤ 20)) ∨ (r_7 = 0 ∧ ¬ ((0 ≤ p2 ∧ p2 ≤ 20))) from hw) with ⟨rfl, hq_7⟩ | ⟨rfl, hq_7⟩
        · skip
          refine lv_if_eq (tgt := 83) hx hb dX10_isGood_71 (by decide) (fun c_8 => absurd c_8 (by decide)) (fun c_8 => ?_)
          refine lv_iload hx hb dX10_isGood_74 (lv_at hl 0 rfl) ?_
          refine lv_if_eq (tgt := 83) hx hb dX10_isGood_76 (by decide) (fun c_9 => absurd c_9 (by decide)) (fun c_9 => ?_)
          refine lv_iconst (v := 1) hx hb dX10_isGood_79 (by decide) ?_
          refine lv_goto (tgt := 84) hx hb dX10_isGood_80 (by decide) ?_
          exact fz_iret hx hb hr rfl hlocks hS dX10_isGood_84 () (Or.inl ⟨rfl, (fq_104 p1 p2 p4 hq_2 c_6 hq_7)⟩) hP (Nat.le_of_ble_eq_true rfl) (Nat.le_of_ble_eq_true rfl)
        · skip
          refine lv_if_eq (tgt := 83) hx hb dX10_isGood_71 (by decide) (fun c_10 => ?_) (fun c_10 => absurd (by decide) c_10)
          refine lv_iconst (v := 0) hx hb dX10_isGood_83 (by decide) ?_
          exact fz_iret hx hb hr rfl hlocks hS dX10_isGood_84 () (Or.inr ⟨rfl, (fq_105 p1 p2 p4 hq_7)⟩) hP (Nat.le_of_ble_eq_true rfl) (Nat.le_of_ble_eq_true rfl)
      · skip
        obtain rfl : p1 = 1 := (fq_18 p1 c_6)
        refine lv_iconst (v := 0) hx hb dX10_isGood_62 (by decide) ?_
        refine lv_goto (tgt := 68) hx hb dX10_isGood_63 (by decide) ?_
        refine fz_cSi (As := [.int p2, .int 0, .int 0]) (rest := []) S0 (m_isBetween l A D k q f pa v p2 0 0) (fz_cwS 3 hts fm_474 fm_475 fm_476 fm_469 rfl rfl ⟨by decide, by decide, by decide +kernel⟩ ⟨Nat.le_of_ble_eq_true rfl, Nat.le_of_ble_eq_true rfl⟩) (fun _ h9 => h9) (fun a9 h9 => hA a9 (Nat.le_trans hS.1 h9)) hG hS hP hK hD rfl hl.1 rfl (Nat.le_of_ble_eq_true rfl) dX10_isGood_68 ⟨Nat.le_of_ble_eq_true rfl, Nat.le_of_ble_eq_true rfl⟩ (fun r_11 u_11 H locs hw hz1 hk1 hP hS => ?_)
        have hP : va_P D vwCl (fz_WM k q f pa v) H := hP
        rcases (show (r_11 = 1 ∧ (0 ≤ p2 ∧ p2 ≤ 0)) ∨ (r_11 = 0 ∧ ¬ ((0 ≤ p2 ∧ p2 ≤ 0))) from hw) with ⟨rfl, hq_11⟩ | ⟨rfl, hq_11⟩
        · skip
          obtain rfl : p2 = 0 := (fq_101 p2 hq_11)
          refine lv_if_eq (tgt := 83) hx hb dX10_isGood_71 (by decide) (fun c_12 => absurd c_12 (by decide)) (fun c_12 => ?_)
          refine lv_iload hx hb dX10_isGood_74 (lv_at hl 0 rfl) ?_
          refine lv_if_eq (tgt := 83) hx hb dX10_isGood_76 (by decide) (fun c_13 => absurd c_13 (by decide)) (fun c_13 => ?_)
          refine lv_iconst (v := 1) hx hb dX10_isGood_79 (by decide) ?_
          refine lv_goto (tgt := 84) hx hb dX10_isGood_80 (by decide) ?_
          exact fz_iret hx hb hr rfl hlocks hS dX10_isGood_84 () (Or.inl ⟨rfl, (fq_20 p4)⟩) hP (Nat.le_of_ble_eq_true rfl) (Nat.le_of_ble_eq_true rfl)
        · skip
          refine lv_if_eq (tgt := 83) hx hb dX10_isGood_71 (by decide) (fun c_14 => ?_) (fun c_14 => absurd (by decide) c_14)
          refine lv_iconst (v := 0) hx hb dX10_isGood_83 (by decide) ?_
          exact fz_iret hx hb hr rfl hlocks hS dX10_isGood_84 () (Or.inr ⟨rfl, (fq_106 p2 p4 hq_11)⟩) hP (Nat.le_of_ble_eq_true rfl) (Nat.le_of_ble_eq_true rfl)
    · skip
      refine lv_if_eq (tgt := 83) hx hb dX10_isGood_42 (by decide) (fun c_15 => ?_) (fun c_15 => absurd (by decide) c_15)
      refine lv_iconst (v := 0) hx hb dX10_isGood_83 (by decide) ?_
      exact fz_iret hx hb hr rfl hlocks hS dX10_isGood_84 () (Or.inr ⟨rfl, (fq_107 p1 p2 p4 hq_2)⟩) hP (Nat.le_of_ble_eq_true rfl) (Nat.le_of_ble_eq_true rfl)
  · skip
    refine lv_iload hx hb dX10_isGood_6 (lv_at hl 4 rfl) ?_
    refine fz_cSi (As := [.int p3]) (rest := []) S0 (m_isDay l A D k q f pa v p3) (fz_cwS 1 hts fm_489 fm_490 fm_491 fm_469 rfl rfl ⟨by decide, by decide, by decide +kernel⟩ ⟨Nat.le_of_ble_eq_true rfl, Nat.le_of_ble_eq_true rfl⟩) (fun _ h9 => h9) (fun a9 h9 => hA a9 (Nat.le_trans hS.1 h9)) hG hS hP hK hD rfl hl.1 rfl (Nat.le_of_ble_eq_true rfl) dX10_isGood_8 ⟨Nat.le_of_ble_eq_true rfl, Nat.le_of_ble_eq_true rfl⟩ (fun r_16 u_16 H locs hw hz1 hk1 hP hS => ?_)
    have hP : va_P D vwCl (fz_WM k q f pa v) H := hP
    rcases (show (r_16 = 1 ∧ (0 ≤ p3 ∧ p3 ≤ 9999)) ∨ (r_16 = 0 ∧ ¬ ((0 ≤ p3 ∧ p3 ≤ 9999))) from hw) with ⟨rfl, hq_16⟩ | ⟨rfl, hq_16⟩
    · skip
      refine lv_if_eq (tgt := 33) hx hb dX10_isGood_11 (by decide) (fun c_17 => absurd c_17 (by decide)) (fun c_17 => ?_)
      refine lv_iload hx hb dX10_isGood_14 (lv_at hl 5 rfl) ?_
      refine fz_cSi (As := [.int p4]) (rest := []) S0 (m_isDay l A D k q f pa v p4) (fz_cwS 1 hts fm_489 fm_490 fm_491 fm_469 rfl rfl ⟨by decide, by decide, by decide +kernel⟩ ⟨Nat.le_of_ble_eq_true rfl, Nat.le_of_ble_eq_true rfl⟩) (fun _ h9 => h9) (fun a9 h9 => hA a9 (Nat.le_trans hS.1 h9)) hG hS hP hK hD rfl hl.1 rfl (Nat.le_of_ble_eq_true rfl) dX10_isGood_16 ⟨Nat.le_of_ble_eq_true rfl, Nat.le_of_ble_eq_true rfl⟩ (fun r_18 u_18 H locs hw hz1 hk1 hP hS => ?_)
      have hP : va_P D vwCl (fz_WM k q f pa v) H := hP
      rcases (show (r_18 = 1 ∧ (0 ≤ p4 ∧ p4 ≤ 9999)) ∨ (r_18 = 0 ∧ ¬ ((0 ≤ p4 ∧ p4 ≤ 9999))) from hw) with ⟨rfl, hq_18⟩ | ⟨rfl, hq_18⟩
      · skip
        refine lv_if_eq (tgt := 33) hx hb dX10_isGood_19 (by decide) (fun c_19 => absurd c_19 (by decide)) (fun c_19 => ?_)
        refine lv_iload hx hb dX10_isGood_22 (lv_at hl 4 rfl) ?_
        refine lv_iload hx hb dX10_isGood_24 (lv_at hl 5 rfl) ?_
        refine lv_icmp_gt (tgt := 33) hx hb dX10_isGood_26 (by decide) (fun c_20 => ?_) (fun c_20 => ?_)
        · skip
          refine lv_iconst (v := 0) hx hb dX10_isGood_33 (by decide) ?_
          refine lv_istore (lv' := [(6, .int 0), (0, .ref (q 0)), (1, .int 0), (2, .int p1), (3, .int p2), (4, .int p3), (5, .int p4)]) hx hb dX10_isGood_34 hl (by decide) rfl (fun ls hl => ?_)
          refine lv_iload_n hx hb dX10_isGood_36 rfl (lv_at hl 3 rfl) ?_
          refine lv_iconst (v := 1) hx hb dX10_isGood_37 (by decide) ?_
          refine lv_iconst (v := 3) hx hb dX10_isGood_38 (by decide) ?_
          refine fz_cSi (As := [.int p1, .int 1, .int 3]) (rest := []) S0 (m_isBetween l A D k q f pa v p1 1 3) (fz_cwS 3 hts fm_474 fm_475 fm_476 fm_469 rfl rfl ⟨by decide, by decide, by decide +kernel⟩ ⟨Nat.le_of_ble_eq_true rfl, Nat.le_of_ble_eq_true rfl⟩) (fun _ h9 => h9) (fun a9 h9 => hA a9 (Nat.le_trans hS.1 h9)) hG hS hP hK hD rfl hl.1 rfl (Nat.le_of_ble_eq_true rfl) dX10_isGood_39 ⟨Nat.le_of_ble_eq_true rfl, Nat.le_of_ble_eq_true rfl⟩ (fun r_21 u_21 H locs hw hz1 hk1 hP hS => ?_)
          have hP : va_P D vwCl (fz_WM k q f pa v) H := hP
          rcases (show (r_21 = 1 ∧ (1 ≤ p1 ∧ p1 ≤ 3)) ∨ (r_21 = 0 ∧ ¬ ((1 ≤ p1 ∧ p1 ≤ 3))) from hw) with ⟨rfl, hq_21⟩ | ⟨rfl, hq_21⟩
          · skip
            refine lv_if_eq (tgt := 83) hx hb dX10_isGood_42 (by decide) (fun c_22 => absurd c_22 (by decide)) (fun c_22 => ?_)
            refine lv_iload_n hx hb dX10_isGood_45 rfl (lv_at hl 3 rfl) ?_
            refine lv_aload_n hx hb dX10_isGood_46 rfl (lv_at hl 1 rfl) ?_
            refine lv_iload_n hx hb dX10_isGood_47 rfl (lv_at hl 2 rfl) ?_
            refine lv_iconst (v := 1) hx hb dX10_isGood_48 (by decide) ?_
            refine fz_cVi (As := [.int 0, .int 1]) (rest := [.int p1]) S0 (m_of1 l A D k q f pa v g_f_1_8) (fz_cwV (C := RX10) 2 hts fm_477 fm_478 fm_479 fm_480 fm_469 rfl rfl ⟨by decide, by decide, by decide +kernel⟩ ⟨Nat.le_of_ble_eq_true rfl, Nat.le_of_ble_eq_true rfl⟩) (va_recv hK hP (ci := 14) (q0 := 0) rfl rfl) (fun _ h9 => h9) (fun a9 h9 => hA a9 (Nat.le_trans hS.1 h9)) hG hS hP hK hD rfl hl.1 rfl (Nat.le_of_ble_eq_true rfl) dX10_isGood_49 ⟨Nat.le_of_ble_eq_true rfl, Nat.le_of_ble_eq_true rfl⟩ (fun r_23 u_23 H locs hw hz1 hk1 hP hS => ?_)
            have hP : va_P D vwCl (fz_WM k q f pa v) H := hP
            obtain rfl : r_23 = 0 := hw
            refine lv_icmp_le (tgt := 83) hx hb dX10_isGood_52 (by decide) (fun c_24 => (fq_103 p1 hq_21 c_24).elim) (fun c_24 => ?_)
            refine lv_iload_n hx hb dX10_isGood_55 rfl (lv_at hl 4 rfl) ?_
            refine lv_iconst (v := 0) hx hb dX10_isGood_56 (by decide) ?_
            refine lv_iload_n hx hb dX10_isGood_57 rfl (lv_at hl 3 rfl) ?_
            refine lv_iconst (v := 1) hx hb dX10_isGood_58 (by decide) ?_
            refine lv_icmp_ne (tgt := 66) hx hb dX10_isGood_59 (by decide) (fun c_25 => ?_) (fun c_25 => ?_)
            · skip
              refine lv_bipush (v := 20) hx hb dX10_isGood_66 (by decide) ?_
              refine fz_cSi (As := [.int p2, .int 0, .int 20]) (rest := []) S0 (m_isBetween l A D k q f pa v p2 0 20) (fz_cwS 3 hts fm_474 fm_475 fm_476 fm_469 rfl rfl ⟨by decide, by decide, by decide +kernel⟩ ⟨Nat.le_of_ble_eq_true rfl, Nat.le_of_ble_eq_true rfl⟩) (fun _ h9 => h9) (fun a9 h9 => hA a9 (Nat.le_trans hS.1 h9)) hG hS hP hK hD rfl hl.1 rfl (Nat.le_of_ble_eq_true rfl) dX10_isGood_68 ⟨Nat.le_of_ble_eq_true rfl, Nat.le_of_ble_eq_true rfl⟩ (fun r_26 u_26 H locs hw hz1 hk1 hP hS => ?_)
              have hP : va_P D vwCl (fz_WM k q f pa v) H := hP
              rcases (show (r_26 = 1 ∧ (0 ≤ p2 ∧ p2 ≤ 20)) ∨ (r_26 = 0 ∧ ¬ ((0 ≤ p2 ∧ p2 ≤ 20))) from hw) with ⟨rfl, hq_26⟩ | ⟨rfl, hq_26⟩
              · skip
                refine lv_if_eq (tgt := 83) hx hb dX10_isGood_71 (by decide) (fun c_27 => absurd c_27 (by decide)) (fun c_27 => ?_)
                refine lv_iload hx hb dX10_isGood_74 (lv_at hl 0 rfl) ?_
                refine lv_if_eq (tgt := 83) hx hb dX10_isGood_76 (by decide) (fun c_28 => ?_) (fun c_28 => absurd (by decide) c_28)
                refine lv_iconst (v := 0) hx hb dX10_isGood_83 (by decide) ?_
                exact fz_iret hx hb hr rfl hlocks hS dX10_isGood_84 () (Or.inr ⟨rfl, (fq_13 p1 p2 p3 p4 hq_18 c_20)⟩) hP (Nat.le_of_ble_eq_true rfl) (Nat.le_of_ble_eq_true rfl)
              · skip
                refine lv_if_eq (tgt := 83) hx hb dX10_isGood_71 (by decide) (fun c_29 => ?_) (fun c_29 => absurd (by decide) c_29)
                refine lv_iconst (v := 0) hx hb dX10_isGood_83 (by decide) ?_
                exact fz_iret hx hb hr rfl hlocks hS dX10_isGood_84 () (Or.inr ⟨rfl, (fq_108 p1 p2 p3 p4 hq_26)⟩) hP (Nat.le_of_ble_eq_true rfl) (Nat.le_of_ble_eq_true rfl)
            · skip
              obtain rfl : p1 = 1 := (fq_18 p1 c_25)
              refine lv_iconst (v := 0) hx hb dX10_isGood_62 (by decide) ?_
              refine lv_goto (tgt := 68) hx hb dX10_isGood_63 (by decide) ?_
              refine fz_cSi (As := [.int p2, .int 0, .int 0]) (rest := []) S0 (m_isBetween l A D k q f pa v p2 0 0) (fz_cwS 3 hts fm_474 fm_475 fm_476 fm_469 rfl rfl ⟨by decide, by decide, by decide +kernel⟩ ⟨Nat.le_of_ble_eq_true rfl, Nat.le_of_ble_eq_true rfl⟩) (fun _ h9 => h9) (fun a9 h9 => hA a9 (Nat.le_trans hS.1 h9)) hG hS hP hK hD rfl hl.1 rfl (Nat.le_of_ble_eq_true rfl) dX10_isGood_68 ⟨Nat.le_of_ble_eq_true rfl, Nat.le_of_ble_eq_true rfl⟩ (fun r_30 u_30 H locs hw hz1 hk1 hP hS => ?_)
              have hP : va_P D vwCl (fz_WM k q f pa v) H := hP
              rcases (show (r_30 = 1 ∧ (0 ≤ p2 ∧ p2 ≤ 0)) ∨ (r_30 = 0 ∧ ¬ ((0 ≤ p2 ∧ p2 ≤ 0))) from hw) with ⟨rfl, hq_30⟩ | ⟨rfl, hq_30⟩
              · skip
                obtain rfl : p2 = 0 := (fq_101 p2 hq_30)
                refine lv_if_eq (tgt := 83) hx hb dX10_isGood_71 (by decide) (fun c_31 => absurd c_31 (by decide)) (fun c_31 => ?_)
                refine lv_iload hx hb dX10_isGood_74 (lv_at hl 0 rfl) ?_
                refine lv_if_eq (tgt := 83) hx hb dX10_isGood_76 (by decide) (fun c_32 => ?_) (fun c_32 => absurd (by decide) c_32)
                refine lv_iconst (v := 0) hx hb dX10_isGood_83 (by decide) ?_
                exact fz_iret hx hb hr rfl hlocks hS dX10_isGood_84 () (Or.inr ⟨rfl, (fq_21 p3 p4 hq_18 c_20)⟩) hP (Nat.le_of_ble_eq_true rfl) (Nat.le_of_ble_eq_true rfl)
              · skip
                refine lv_if_eq (tgt := 83) hx hb dX10_isGood_71 (by decide) (fun c_33 => ?_) (fun c_33 => absurd (by decide) c_33)
                refine lv_iconst (v := 0) hx hb dX10_isGood_83 (by decide) ?_
                exact fz_iret hx hb hr rfl hlocks hS dX10_isGood_84 () (Or.inr ⟨rfl, (fq_109 p2 p3 p4 hq_30)⟩) hP (Nat.le_of_ble_eq_true rfl) (Nat.le_of_ble_eq_true rfl)
          · skip
            refine lv_if_eq (tgt := 83) hx hb dX10_isGood_42 (by decide) (fun c_34 => ?_) (fun c_34 => absurd (by decide) c_34)
            refine lv_iconst (v := 0) hx hb dX10_isGood_83 (by decide) ?_
            exact fz_iret hx hb hr rfl hlocks hS dX10_isGood_84 () (Or.inr ⟨rfl, (fq_110 p1 p2 p3 p4 hq_21)⟩) hP (Nat.le_of_ble_eq_true rfl) (Nat.le_of_ble_eq_true rfl)
        · skip
          refine lv_iconst (v := 1) hx hb dX10_isGood_29 (by decide) ?_
          refine lv_goto (tgt := 34) hx hb dX10_isGood_30 (by decide) ?_
          refine lv_istore (lv' := [(6, .int 1), (0, .ref (q 0)), (1, .int 0), (2, .int p1), (3, .int p2), (4, .int p3), (5, .int p4)]) hx hb dX10_isGood_34 hl (by decide) rfl (fun ls hl => ?_)
          refine lv_iload_n hx hb dX10_isGood_36 rfl (lv_at hl 3 rfl) ?_
          refine lv_iconst (v := 1) hx hb dX10_isGood_37 (by decide) ?_
          refine lv_iconst (v := 3) hx hb dX10_isGood_38 (by decide) ?_
          refine fz_cSi (As := [.int p1, .int 1, .int 3]) (rest := []) S0 (m_isBetween l A D k q f pa v p1 1 3) (fz_cwS 3 hts fm_474 fm_475 fm_476 fm_469 rfl rfl ⟨by decide, by decide, by decide +kernel⟩ ⟨Nat.le_of_ble_eq_true rfl, Nat.le_of_ble_eq_true rfl⟩) (fun _ h9 => h9) (fun a9 h9 => hA a9 (Nat.le_trans hS.1 h9)) hG hS hP hK hD rfl hl.1 rfl (Nat.le_of_ble_eq_true rfl) dX10_isGood_39 ⟨Nat.le_of_ble_eq_true rfl, Nat.le_of_ble_eq_true rfl⟩ (fun r_35 u_35 H locs hw hz1 hk1 hP hS => ?_)
          have hP : va_P D vwCl (fz_WM k q f pa v) H := hP
          rcases (show (r_35 = 1 ∧ (1 ≤ p1 ∧ p1 ≤ 3)) ∨ (r_35 = 0 ∧ ¬ ((1 ≤ p1 ∧ p1 ≤ 3))) from hw) with ⟨rfl, hq_35⟩ | ⟨rfl, hq_35⟩
          · skip
            refine lv_if_eq (tgt := 83) hx hb dX10_isGood_42 (by decide) (fun c_36 => absurd c_36 (by decide)) (fun c_36 => ?_)
            refine lv_iload_n hx hb dX10_isGood_45 rfl (lv_at hl 3 rfl) ?_
            refine lv_aload_n hx hb dX10_isGood_46 rfl (lv_at hl 1 rfl) ?_
            refine lv_iload_n hx hb dX10_isGood_47 rfl (lv_at hl 2 rfl) ?_
            refine lv_iconst (v := 1) hx hb dX10_isGood_48 (by decide) ?_
            refine fz_cVi (As := [.int 0, .int 1]) (rest := [.int p1]) S0 (m_of1 l A D k q f pa v g_f_1_8) (fz_cwV (C := RX10) 2 hts fm_477 fm_478 fm_479 fm_480 fm_469 rfl rfl ⟨by decide, by decide, by decide +kernel⟩ ⟨Nat.le_of_ble_eq_true rfl, Nat.le_of_ble_eq_true rfl⟩) (va_recv hK hP (ci := 14) (q0 := 0) rfl rfl) (fun _ h9 => h9) (fun a9 h9 => hA a9 (Nat.le_trans hS.1 h9)) hG hS hP hK hD rfl hl.1 rfl (Nat.le_of_ble_eq_true rfl) dX10_isGood_49 ⟨Nat.le_of_ble_eq_true rfl, Nat.le_of_ble_eq_true rfl⟩ (fun r_37 u_37 H locs hw hz1 hk1 hP hS => ?_)
            have hP : va_P D vwCl (fz_WM k q f pa v) H := hP
            obtain rfl : r_37 = 0 := hw
            refine lv_icmp_le (tgt := 83) hx hb dX10_isGood_52 (by decide) (fun c_38 => (fq_103 p1 hq_35 c_38).elim) (fun c_38 => ?_)
            refine lv_iload_n hx hb dX10_isGood_55 rfl (lv_at hl 4 rfl) ?_
            refine lv_iconst (v := 0) hx hb dX10_isGood_56 (by decide) ?_
            refine lv_iload_n hx hb dX10_isGood_57 rfl (lv_at hl 3 rfl) ?_
            refine lv_iconst (v := 1) hx hb dX10_isGood_58 (by decide) ?_
            refine lv_icmp_ne (tgt := 66) hx hb dX10_isGood_59 (by decide) (fun c_39 => ?_) (fun c_39 => ?_)
            · skip
              refine lv_bipush (v := 20) hx hb dX10_isGood_66 (by decide) ?_
              refine fz_cSi (As := [.int p2, .int 0, .int 20]) (rest := []) S0 (m_isBetween l A D k q f pa v p2 0 20) (fz_cwS 3 hts fm_474 fm_475 fm_476 fm_469 rfl rfl ⟨by decide, by decide, by decide +kernel⟩ ⟨Nat.le_of_ble_eq_true rfl, Nat.le_of_ble_eq_true rfl⟩) (fun _ h9 => h9) (fun a9 h9 => hA a9 (Nat.le_trans hS.1 h9)) hG hS hP hK hD rfl hl.1 rfl (Nat.le_of_ble_eq_true rfl) dX10_isGood_68 ⟨Nat.le_of_ble_eq_true rfl, Nat.le_of_ble_eq_true rfl⟩ (fun r_40 u_40 H locs hw hz1 hk1 hP hS => ?_)
              have hP : va_P D vwCl (fz_WM k q f pa v) H := hP
              rcases (show (r_40 = 1 ∧ (0 ≤ p2 ∧ p2 ≤ 20)) ∨ (r_40 = 0 ∧ ¬ ((0 ≤ p2 ∧ p2 ≤ 20))) from hw) with ⟨rfl, hq_40⟩ | ⟨rfl, hq_40⟩
              · skip
                refine lv_if_eq (tgt := 83) hx hb dX10_isGood_71 (by decide) (fun c_41 => absurd c_41 (by decide)) (fun c_41 => ?_)
                refine lv_iload hx hb dX10_isGood_74 (lv_at hl 0 rfl) ?_
                refine lv_if_eq (tgt := 83) hx hb dX10_isGood_76 (by decide) (fun c_42 => absurd c_42 (by decide)) (fun c_42 => ?_)
                refine lv_iconst (v := 1) hx hb dX10_isGood_79 (by decide) ?_
                refine lv_goto (tgt := 84) hx hb dX10_isGood_80 (by decide) ?_
                exact fz_iret hx hb hr rfl hlocks hS dX10_isGood_84 () (Or.inl ⟨rfl, (fq_111 p1 p2 p3 p4 hq_16 hq_18 c_20 hq_35 c_39 hq_40)⟩) hP (Nat.le_of_ble_eq_true rfl) (Nat.le_of_ble_eq_true rfl)
              · skip
                refine lv_if_eq (tgt := 83) hx hb dX10_isGood_71 (by decide) (fun c_43 => ?_) (fun c_43 => absurd (by decide) c_43)
                refine lv_iconst (v := 0) hx hb dX10_isGood_83 (by decide) ?_
                exact fz_iret hx hb hr rfl hlocks hS dX10_isGood_84 () (Or.inr ⟨rfl, (fq_108 p1 p2 p3 p4 hq_40)⟩) hP (Nat.le_of_ble_eq_true rfl) (Nat.le_of_ble_eq_true rfl)
            · skip
              obtain rfl : p1 = 1 := (fq_18 p1 c_39)
              refine lv_iconst (v := 0) hx hb dX10_isGood_62 (by decide) ?_
              refine lv_goto (tgt := 68) hx hb dX10_isGood_63 (by decide) ?_
              refine fz_cSi (As := [.int p2, .int 0, .int 0]) (rest := []) S0 (m_isBetween l A D k q f pa v p2 0 0) (fz_cwS 3 hts fm_474 fm_475 fm_476 fm_469 rfl rfl ⟨by decide, by decide, by decide +kernel⟩ ⟨Nat.le_of_ble_eq_true rfl, Nat.le_of_ble_eq_true rfl⟩) (fun _ h9 => h9) (fun a9 h9 => hA a9 (Nat.le_trans hS.1 h9)) hG hS hP hK hD rfl hl.1 rfl (Nat.le_of_ble_eq_true rfl) dX10_isGood_68 ⟨Nat.le_of_ble_eq_true rfl, Nat.le_of_ble_eq_true rfl⟩ (fun r_44 u_44 H locs hw hz1 hk1 hP hS => ?_)
              have hP : va_P D vwCl (fz_WM k q f pa v) H := hP
              rcases (show (r_44 = 1 ∧ (0 ≤ p2 ∧ p2 ≤ 0)) ∨ (r_44 = 0 ∧ ¬ ((0 ≤ p2 ∧ p2 ≤ 0))) from hw) with ⟨rfl, hq_44⟩ | ⟨rfl, hq_44⟩
              · skip
                obtain rfl : p2 = 0 := (fq_101 p2 hq_44)
                refine lv_if_eq (tgt := 83) hx hb dX10_isGood_71 (by decide) (fun c_45 => absurd c_45 (by decide)) (fun c_45 => ?_)
                refine lv_iload hx hb dX10_isGood_74 (lv_at hl 0 rfl) ?_
                refine lv_if_eq (tgt := 83) hx hb dX10_isGood_76 (by decide) (fun c_46 => absurd c_46 (by decide)) (fun c_46 => ?_)
                refine lv_iconst (v := 1) hx hb dX10_isGood_79 (by decide) ?_
                refine lv_goto (tgt := 84) hx hb dX10_isGood_80 (by decide) ?_
                exact fz_iret hx hb hr rfl hlocks hS dX10_isGood_84 () (Or.inl ⟨rfl, (fq_22 p3 p4 hq_16 hq_18 c_20)⟩) hP (Nat.le_of_ble_eq_true rfl) (Nat.le_of_ble_eq_true rfl)
              · skip
                refine lv_if_eq (tgt := 83) hx hb dX10_isGood_71 (by decide) (fun c_47 => ?_) (fun c_47 => absurd (by decide) c_47)
                refine lv_iconst (v := 0) hx hb dX10_isGood_83 (by decide) ?_
                exact fz_iret hx hb hr rfl hlocks hS dX10_isGood_84 () (Or.inr ⟨rfl, (fq_109 p2 p3 p4 hq_44)⟩) hP (Nat.le_of_ble_eq_true rfl) (Nat.le_of_ble_eq_true rfl)
          · skip
            refine lv_if_eq (tgt := 83) hx hb dX10_isGood_42 (by decide) (fun c_48 => ?_) (fun c_48 => absurd (by decide) c_48)
            refine lv_iconst (v := 0) hx hb dX10_isGood_83 (by decide) ?_
            exact fz_iret hx hb hr rfl hlocks hS dX10_isGood_84 () (Or.inr ⟨rfl, (fq_110 p1 p2 p3 p4 hq_35)⟩) hP (Nat.le_of_ble_eq_true rfl) (Nat.le_of_ble_eq_true rfl)
      · skip
        refine lv_if_eq (tgt := 33) hx hb dX10_isGood_19 (by decide) (fun c_49 => ?_) (fun c_49 => absurd (by decide) c_49)
        refine lv_iconst (v := 0) hx hb dX10_isGood_33 (by decide) ?_
        refine lv_istore (lv' := [(6, .int 0), (0, .ref (q 0)), (1, .int 0), (2, .int p1), (3, .int p2), (4, .int p3), (5, .int p4)]) hx hb dX10_isGood_34 hl (by decide) rfl (fun ls hl => ?_)
        refine lv_iload_n hx hb dX10_isGood_36 rfl (lv_at hl 3 rfl) ?_
        refine lv_iconst (v := 1) hx hb dX10_isGood_37 (by decide) ?_
        refine lv_iconst (v := 3) hx hb dX10_isGood_38 (by decide) ?_
        refine fz_cSi (As := [.int p1, .int 1, .int 3]) (rest := []) S0 (m_isBetween l A D k q f pa v p1 1 3) (fz_cwS 3 hts fm_474 fm_475 fm_476 fm_469 rfl rfl ⟨by decide, by decide, by decide +kernel⟩ ⟨Nat.le_of_ble_eq_true rfl, Nat.le_of_ble_eq_true rfl⟩) (fun _ h9 => h9) (fun a9 h9 => hA a9 (Nat.le_trans hS.1 h9)) hG hS hP hK hD rfl hl.1 rfl (Nat.le_of_ble_eq_true rfl) dX10_isGood_39 ⟨Nat.le_of_ble_eq_true rfl, Nat.le_of_ble_eq_true rfl⟩ (fun r_50 u_50 H locs hw hz1 hk1 hP hS => ?_)
        have hP : va_P D vwCl (fz_WM k q f pa v) H := hP
        rcases (show (r_50 = 1 ∧ (1 ≤ p1 ∧ p1 ≤ 3)) ∨ (r_50 = 0 ∧ ¬ ((1 ≤ p1 ∧ p1 ≤ 3))) from hw) with ⟨rfl, hq_50⟩ | ⟨rfl, hq_50⟩
        · skip
          refine lv_if_eq (tgt := 83) hx hb dX10_isGood_42 (by decide) (fun c_51 => absurd c_51 (by decide)) (fun c_51 => ?_)
          refine lv_iload_n hx hb dX10_isGood_45 rfl (lv_at hl 3 rfl) ?_
          refine lv_aload_n hx hb dX10_isGood_46 rfl (lv_at hl 1 rfl) ?_
          refine lv_iload_n hx hb dX10_isGood_47 rfl (lv_at hl 2 rfl) ?_
          refine lv_iconst (v := 1) hx hb dX10_isGood_48 (by decide) ?_
          refine fz_cVi (As := [.int 0, .int 1]) (rest := [.int p1]) S0 (m_of1 l A D k q f pa v g_f_1_8) (fz_cwV (C := RX10) 2 hts fm_477 fm_478 fm_479 fm_480 fm_469 rfl rfl ⟨by decide, by decide, by decide +kernel⟩ ⟨Nat.le_of_ble_eq_true rfl, Nat.le_of_ble_eq_true rfl⟩) (va_recv hK hP (ci := 14) (q0 := 0) rfl rfl) (fun _ h9 => h9) (fun a9 h9 => hA a9 (Nat.le_trans hS.1 h9)) hG hS hP hK hD rfl hl.1 rfl (Nat.le_of_ble_eq_true rfl) dX10_isGood_49 ⟨Nat.le_of_ble_eq_true rfl, Nat.le_of_ble_eq_true rfl⟩ (fun r_52 u_52 H locs hw hz1 hk1 hP hS => ?_)
          have hP : va_P D vwCl (fz_WM k q f pa v) H := hP
          obtain rfl : r_52 = 0 := hw
          refine lv_icmp_le (tgt := 83) hx hb dX10_isGood_52 (by decide) (fun c_53 => (fq_103 p1 hq_50 c_53).elim) (fun c_53 => ?_)
          refine lv_iload_n hx hb dX10_isGood_55 rfl (lv_at hl 4 rfl) ?_
          refine lv_iconst (v := 0) hx hb dX10_isGood_56 (by decide) ?_
          refine lv_iload_n hx hb dX10_isGood_57 rfl (lv_at hl 3 rfl) ?_
          refine lv_iconst (v := 1) hx hb dX10_isGood_58 (by decide) ?_
          refine lv_icmp_ne (tgt := 66) hx hb dX10_isGood_59 (by decide) (fun c_54 => ?_) (fun c_54 => ?_)
          · skip
            refine lv_bipush (v := 20) hx hb dX10_isGood_66 (by decide) ?_
            refine fz_cSi (As := [.int p2, .int 0, .int 20]) (rest := []) S0 (m_isBetween l A D k q f pa v p2 0 20) (fz_cwS 3 hts fm_474 fm_475 fm_476 fm_469 rfl rfl ⟨by decide, by decide, by decide +kernel⟩ ⟨Nat.le_of_ble_eq_true rfl, Nat.le_of_ble_eq_true rfl⟩) (fun _ h9 => h9) (fun a9 h9 => hA a9 (Nat.le_trans hS.1 h9)) hG hS hP hK hD rfl hl.1 rfl (Nat.le_of_ble_eq_true rfl) dX10_isGood_68 ⟨Nat.le_of_ble_eq_true rfl, Nat.le_of_ble_eq_true rfl⟩ (fun r_55 u_55 H locs hw hz1 hk1 hP hS => ?_)
            have hP : va_P D vwCl (fz_WM k q f pa v) H := hP
            rcases (show (r_55 = 1 ∧ (0 ≤ p2 ∧ p2 ≤ 20)) ∨ (r_55 = 0 ∧ ¬ ((0 ≤ p2 ∧ p2 ≤ 20))) from hw) with ⟨rfl, hq_55⟩ | ⟨rfl, hq_55⟩
            · skip
              refine lv_if_eq (tgt := 83) hx hb dX10_isGood_71 (by decide) (fun c_56 => absurd c_56 (by decide)) (fun c_56 => ?_)
              refine lv_iload hx hb dX10_isGood_74 (lv_at hl 0 rfl) ?_
              refine lv_if_eq (tgt := 83) hx hb dX10_isGood_76 (by decide) (fun c_57 => ?_) (fun c_57 => absurd (by decide) c_57)
              refine lv_iconst (v := 0) hx hb dX10_isGood_83 (by decide) ?_
              exact fz_iret hx hb hr rfl hlocks hS dX10_isGood_84 () (Or.inr ⟨rfl, (fq_15 p1 p2 p3 p4 hq_16 hq_18)⟩) hP (Nat.le_of_ble_eq_true rfl) (Nat.le_of_ble_eq_true rfl)
            · skip
              refine lv_if_eq (tgt := 83) hx hb dX10_isGood_71 (by decide) (fun c_58 => ?_) (fun c_58 => absurd (by decide) c_58)
              refine lv_iconst (v := 0) hx hb dX10_isGood_83 (by decide) ?_
              exact fz_iret hx hb hr rfl hlocks hS dX10_isGood_84 () (Or.inr ⟨rfl, (fq_108 p1 p2 p3 p4 hq_55)⟩) hP (Nat.le_of_ble_eq_true rfl) (Nat.le_of_ble_eq_true rfl)
          · skip
            obtain rfl : p1 = 1 := (fq_18 p1 c_54)
            refine lv_iconst (v := 0) hx hb dX10_isGood_62 (by decide) ?_
            refine lv_goto (tgt := 68) hx hb dX10_isGood_63 (by decide) ?_
            refine fz_cSi (As := [.int p2, .int 0, .int 0]) (rest := []) S0 (m_isBetween l A D k q f pa v p2 0 0) (fz_cwS 3 hts fm_474 fm_475 fm_476 fm_469 rfl rfl ⟨by decide, by decide, by decide +kernel⟩ ⟨Nat.le_of_ble_eq_true rfl, Nat.le_of_ble_eq_true rfl⟩) (fun _ h9 => h9) (fun a9 h9 => hA a9 (Nat.le_trans hS.1 h9)) hG hS hP hK hD rfl hl.1 rfl (Nat.le_of_ble_eq_true rfl) dX10_isGood_68 ⟨Nat.le_of_ble_eq_true rfl, Nat.le_of_ble_eq_true rfl⟩ (fun r_59 u_59 H locs hw hz1 hk1 hP hS => ?_)
            have hP : va_P D vwCl (fz_WM k q f pa v) H := hP
            rcases (show (r_59 = 1 ∧ (0 ≤ p2 ∧ p2 ≤ 0)) ∨ (r_59 = 0 ∧ ¬ ((0 ≤ p2 ∧ p2 ≤ 0))) from hw) with ⟨rfl, hq_59⟩ | ⟨rfl, hq_59⟩
            · skip
              obtain rfl : p2 = 0 := (fq_101 p2 hq_59)
              refine lv_if_eq (tgt := 83) hx hb dX10_isGood_71 (by decide) (fun c_60 => absurd c_60 (by decide)) (fun c_60 => ?_)
              refine lv_iload hx hb dX10_isGood_74 (lv_at hl 0 rfl) ?_
              refine lv_if_eq (tgt := 83) hx hb dX10_isGood_76 (by decide) (fun c_61 => ?_) (fun c_61 => absurd (by decide) c_61)
              refine lv_iconst (v := 0) hx hb dX10_isGood_83 (by decide) ?_
              exact fz_iret hx hb hr rfl hlocks hS dX10_isGood_84 () (Or.inr ⟨rfl, (fq_23 p3 p4 hq_16 hq_18)⟩) hP (Nat.le_of_ble_eq_true rfl) (Nat.le_of_ble_eq_true rfl)
            · skip
              refine lv_if_eq (tgt := 83) hx hb dX10_isGood_71 (by decide) (fun c_62 => ?_) (fun c_62 => absurd (by decide) c_62)
              refine lv_iconst (v := 0) hx hb dX10_isGood_83 (by decide) ?_
              exact fz_iret hx hb hr rfl hlocks hS dX10_isGood_84 () (Or.inr ⟨rfl, (fq_109 p2 p3 p4 hq_59)⟩) hP (Nat.le_of_ble_eq_true rfl) (Nat.le_of_ble_eq_true rfl)
        · skip
          refine lv_if_eq (tgt := 83) hx hb dX10_isGood_42 (by decide) (fun c_63 => ?_) (fun c_63 => absurd (by decide) c_63)
          refine lv_iconst (v := 0) hx hb dX10_isGood_83 (by decide) ?_
          exact fz_iret hx hb hr rfl hlocks hS dX10_isGood_84 () (Or.inr ⟨rfl, (fq_110 p1 p2 p3 p4 hq_50)⟩) hP (Nat.le_of_ble_eq_true rfl) (Nat.le_of_ble_eq_true rfl)
    · skip
      refine lv_if_eq (tgt := 33) hx hb dX10_isGood_11 (by decide) (fun c_64 => ?_) (fun c_64 => absurd (by decide) c_64)
      refine lv_iconst (v := 0) hx hb dX10_isGood_33 (by decide) ?_
      refine lv_istore (lv' := [(6, .int 0), (0, .ref (q 0)), (1, .int 0), (2, .int p1), (3, .int p2), (4, .int p3), (5, .int p4)]) hx hb dX10_isGood_34 hl (by decide) rfl (fun ls hl => ?_)
      refine lv_iload_n hx hb dX10_isGood_36 rfl (lv_at hl 3 rfl) ?_
      refine lv_iconst (v := 1) hx hb dX10_isGood_37 (by decide) ?_
      refine lv_iconst (v := 3) hx hb dX10_isGood_38 (by decide) ?_
      refine fz_cSi (As := [.int p1, .int 1, .int 3]) (rest := []) S0 (m_isBetween l A D k q f pa v p1 1 3) (fz_cwS 3 hts fm_474 fm_475 fm_476 fm_469 rfl rfl ⟨by decide, by decide, by decide +kernel⟩ ⟨Nat.le_of_ble_eq_true rfl, Nat.le_of_ble_eq_true rfl⟩) (fun _ h9 => h9) (fun a9 h9 => hA a9 (Nat.le_trans hS.1 h9)) hG hS hP hK hD rfl hl.1 rfl (Nat.le_of_ble_eq_true rfl) dX10_isGood_39 ⟨Nat.le_of_ble_eq_true rfl, Nat.le_of_ble_eq_true rfl⟩ (fun r_65 u_65 H locs hw hz1 hk1 hP hS => ?_)
      have hP : va_P D vwCl (fz_WM k q f pa v) H := hP
      rcases (show (r_65 = 1 ∧ (1 ≤ p1 ∧ p1 ≤ 3)) ∨ (r_65 = 0 ∧ ¬ ((1 ≤ p1 ∧ p1 ≤ 3))) from hw) with ⟨rfl, hq_65⟩ | ⟨rfl, hq_65⟩
      · skip
        refine lv_if_eq (tgt := 83) hx hb dX10_isGood_42 (by decide) (fun c_66 => absurd c_66 (by decide)) (fun c_66 => ?_)
        refine lv_iload_n hx hb dX10_isGood_45 rfl (lv_at hl 3 rfl) ?_
        refine lv_aload_n hx hb dX10_isGood_46 rfl (lv_at hl 1 rfl) ?_
        refine lv_iload_n hx hb dX10_isGood_47 rfl (lv_at hl 2 rfl) ?_
        refine lv_iconst (v := 1) hx hb dX10_isGood_48 (by decide) ?_
        refine fz_cVi (As := [.int 0, .int 1]) (rest := [.int p1]) S0 (m_of1 l A D k q f pa v g_f_1_8) (fz_cwV (C := RX10) 2 hts fm_477 fm_478 fm_479 fm_480 fm_469 rfl rfl ⟨by decide, by decide, by decide +kernel⟩ ⟨Nat.le_of_ble_eq_true rfl, Nat.le_of_ble_eq_true rfl⟩) (va_recv hK hP (ci := 14) (q0 := 0) rfl rfl) (fun _ h9 => h9) (fun a9 h9 => hA a9 (Nat.le_trans hS.1 h9)) hG hS hP hK hD rfl hl.1 rfl (Nat.le_of_ble_eq_true rfl) dX10_isGood_49 ⟨Nat.le_of_ble_eq_true rfl, Nat.le_of_ble_eq_true rfl⟩ (fun r_67 u_67 H locs hw hz1 hk1 hP hS => ?_)
        have hP : va_P D vwCl (fz_WM k q f pa v) H := hP
        obtain rfl : r_67 = 0 := hw
        refine lv_icmp_le (tgt := 83) hx hb dX10_isGood_52 (by decide) (fun c_68 => (fq_103 p1 hq_65 c_68).elim) (fun c_68 => ?_)
        refine lv_iload_n hx hb dX10_isGood_55 rfl (lv_at hl 4 rfl) ?_
        refine lv_iconst (v := 0) hx hb dX10_isGood_56 (by decide) ?_
        refine lv_iload_n hx hb dX10_isGood_57 rfl (lv_at hl 3 rfl) ?_
        refine lv_iconst (v := 1) hx hb dX10_isGood_58 (by decide) ?_
        refine lv_icmp_ne (tgt := 66) hx hb dX10_isGood_59 (by decide) (fun c_69 => ?_) (fun c_69 => ?_)
        · skip
          refine lv_bipush (v := 20) hx hb dX10_isGood_66 (by decide) ?_
          refine fz_cSi (As := [.int p2, .int 0, .int 20]) (rest := []) S0 (m_isBetween l A D k q f pa v p2 0 20) (fz_cwS 3 hts fm_474 fm_475 fm_476 fm_469 rfl rfl ⟨by decide, by decide, by decide +kernel⟩ ⟨Nat.le_of_ble_eq_true rfl, Nat.le_of_ble_eq_true rfl⟩) (fun _ h9 => h9) (fun a9 h9 => hA a9 (Nat.le_trans hS.1 h9)) hG hS hP hK hD rfl hl.1 rfl (Nat.le_of_ble_eq_true rfl) dX10_isGood_68 ⟨Nat.le_of_ble_eq_true rfl, Nat.le_of_ble_eq_true rfl⟩ (fun r_70 u_70 H locs hw hz1 hk1 hP hS => ?_)
          have hP : va_P D vwCl (fz_WM k q f pa v) H := hP
          rcases (show (r_70 = 1 ∧ (0 ≤ p2 ∧ p2 ≤ 20)) ∨ (r_70 = 0 ∧ ¬ ((0 ≤ p2 ∧ p2 ≤ 20))) from hw) with ⟨rfl, hq_70⟩ | ⟨rfl, hq_70⟩
          · skip
            refine lv_if_eq (tgt := 83) hx hb dX10_isGood_71 (by decide) (fun c_71 => absurd c_71 (by decide)) (fun c_71 => ?_)
            refine lv_iload hx hb dX10_isGood_74 (lv_at hl 0 rfl) ?_
            refine lv_if_eq (tgt := 83) hx hb dX10_isGood_76 (by decide) (fun c_72 => ?_) (fun c_72 => absurd (by decide) c_72)
            refine lv_iconst (v := 0) hx hb dX10_isGood_83 (by decide) ?_
            exact fz_iret hx hb hr rfl hlocks hS dX10_isGood_84 () (Or.inr ⟨rfl, (fq_16 p1 p2 p3 p4 c_1 hq_16)⟩) hP (Nat.le_of_ble_eq_true rfl) (Nat.le_of_ble_eq_true rfl)
          · skip
            refine lv_if_eq (tgt := 83) hx hb dX10_isGood_71 (by decide) (fun c_73 => ?_) (fun c_73 => absurd (by decide) c_73)
            refine lv_iconst (v := 0) hx hb dX10_isGood_83 (by decide) ?_
            exact fz_iret hx hb hr rfl hlocks hS dX10_isGood_84 () (Or.inr ⟨rfl, (fq_108 p1 p2 p3 p4 hq_70)⟩) hP (Nat.le_of_ble_eq_true rfl) (Nat.le_of_ble_eq_true rfl)
        · skip
          obtain rfl : p1 = 1 := (fq_18 p1 c_69)
          refine lv_iconst (v := 0) hx hb dX10_isGood_62 (by decide) ?_
          refine lv_goto (tgt := 68) hx hb dX10_isGood_63 (by decide) ?_
          refine fz_cSi (As := [.int p2, .int 0, .int 0]) (rest := []) S0 (m_isBetween l A D k q f pa v p2 0 0) (fz_cwS 3 hts fm_474 fm_475 fm_476 fm_469 rfl rfl ⟨by decide, by decide, by decide +kernel⟩ ⟨Nat.le_of_ble_eq_true rfl, Nat.le_of_ble_eq_true rfl⟩) (fun _ h9 => h9) (fun a9 h9 => hA a9 (Nat.le_trans hS.1 h9)) hG hS hP hK hD rfl hl.1 rfl (Nat.le_of_ble_eq_true rfl) dX10_isGood_68 ⟨Nat.le_of_ble_eq_true rfl, Nat.le_of_ble_eq_true rfl⟩ (fun r_74 u_74 H locs hw hz1 hk1 hP hS => ?_)
          have hP : va_P D vwCl (fz_WM k q f pa v) H := hP
          rcases (show (r_74 = 1 ∧ (0 ≤ p2 ∧ p2 ≤ 0)) ∨ (r_74 = 0 ∧ ¬ ((0 ≤ p2 ∧ p2 ≤ 0))) from hw) with ⟨rfl, hq_74⟩ | ⟨rfl, hq_74⟩
          · skip
            obtain rfl : p2 = 0 := (fq_101 p2 hq_74)
            refine lv_if_eq (tgt := 83) hx hb dX10_isGood_71 (by decide) (fun c_75 => absurd c_75 (by decide)) (fun c_75 => ?_)
            refine lv_iload hx hb dX10_isGood_74 (lv_at hl 0 rfl) ?_
            refine lv_if_eq (tgt := 83) hx hb dX10_isGood_76 (by decide) (fun c_76 => ?_) (fun c_76 => absurd (by decide) c_76)
            refine lv_iconst (v := 0) hx hb dX10_isGood_83 (by decide) ?_
            exact fz_iret hx hb hr rfl hlocks hS dX10_isGood_84 () (Or.inr ⟨rfl, (fq_24 p3 p4 c_1 hq_16)⟩) hP (Nat.le_of_ble_eq_true rfl) (Nat.le_of_ble_eq_true rfl)
          · skip
            refine lv_if_eq (tgt := 83) hx hb dX10_isGood_71 (by decide) (fun c_77 => ?_) (fun c_77 => absurd (by decide) c_77)
            refine lv_iconst (v := 0) hx hb dX10_isGood_83 (by decide) ?_
            exact fz_iret hx hb hr rfl hlocks hS dX10_isGood_84 () (Or.inr ⟨rfl, (fq_109 p2 p3 p4 hq_74)⟩) hP (Nat.le_of_ble_eq_true rfl) (Nat.le_of_ble_eq_true rfl)
      · skip
        refine lv_if_eq (tgt := 83) hx hb dX10_isGood_42 (by decide) (fun c_78 => ?_) (fun c_78 => absurd (by decide) c_78)
        refine lv_iconst (v := 0) hx hb dX10_isGood_83 (by decide) ?_
        exact fz_iret hx hb hr rfl hlocks hS dX10_isGood_84 () (Or.inr ⟨rfl, (fq_110 p1 p2 p3 p4 hq_65)⟩) hP (Nat.le_of_ble_eq_true rfl) (Nat.le_of_ble_eq_true rfl)

set_option maxHeartbeats 4000000 in
set_option maxRecDepth 100000 in
theorem m_isWithin (l : Launch) (A : Nat → Prop) (D : va_G) (k : Nat → ClassId) (q : Nat → Nat) (f : Nat → Nat → Int32) (pa : Nat → Option Nat) (v : Nat → Int32)   :
    Met l yX10_isWithin (fz_ws yX10_isWithin cX10_isWithin 4 (some .boolean)) { frames := 0, cells := 0, slots := 0, locals := 0 } (va_Pc [.ref (q 0), .int 0, .int 0] (fz_PC A D (fz_tys k) (fz_WM k q f pa v))) (fz_QI D A (fun (_ : Unit) => fz_WM k q f pa v) (fun (r : Int32) (_ : Unit) => r = 1)) 0 0 A := by
  refine fz_of (by decide +kernel) (Nat.le_of_ble_eq_true rfl) ?_
  intro p e s m below meth c hx hb hr hml hown hlocks hts hin hA hP hK hD hG hS ls hl
  have hown : s.vm.findClass RX10 = some m.cls := hown
  have S0 : CallFix p m c cX10_isWithin 4 s [.ref (q 0), .int 0, .int 0].toArray (fz_ws yX10_isWithin cX10_isWithin 4 (some .boolean)) RX10 := ⟨hx, hb, hml, hown, hts⟩
  have hl : lv_has ls 4 [(0, .ref (q 0)), (1, .int 0), (2, .int 0)] := hl
  refine lv_iload_n hx hb dX10_isWithin_0 rfl (lv_at hl 1 rfl) ?_
  refine lv_istore_n (lv' := [(3, .int 0), (0, .ref (q 0)), (1, .int 0), (2, .int 0)]) hx hb dX10_isWithin_1 rfl hl (by decide) rfl (fun ls hl => ?_)
  refine lv_iload_n hx hb dX10_isWithin_2 rfl (lv_at hl 0 rfl) ?_
  refine lv_if_lt (tgt := 21) hx hb dX10_isWithin_3 (by decide) (fun c_1 => absurd c_1 (by decide)) (fun c_1 => ?_)
  refine lv_iload_n hx hb dX10_isWithin_6 rfl (lv_at hl 0 rfl) ?_
  refine lv_iload_n hx hb dX10_isWithin_7 rfl (lv_at hl 3 rfl) ?_
  refine lv_icmp_eq (tgt := 21) hx hb dX10_isWithin_8 (by decide) (fun c_2 => ?_) (fun c_2 => absurd (by decide) c_2)
  refine lv_iload_n hx hb dX10_isWithin_21 rfl (lv_at hl 0 rfl) ?_
  refine lv_iload_n hx hb dX10_isWithin_22 rfl (lv_at hl 3 rfl) ?_
  refine lv_icmp_ne (tgt := 30) hx hb dX10_isWithin_23 (by decide) (fun c_3 => absurd (by decide) c_3) (fun c_3 => ?_)
  refine lv_iconst (v := 1) hx hb dX10_isWithin_26 (by decide) ?_
  refine lv_goto (tgt := 31) hx hb dX10_isWithin_27 (by decide) ?_
  exact fz_iret hx hb hr rfl hlocks hS dX10_isWithin_31 () rfl hP (Nat.le_of_ble_eq_true rfl) (Nat.le_of_ble_eq_true rfl)

set_option maxHeartbeats 4000000 in
set_option maxRecDepth 100000 in
theorem m_latest (l : Launch) (A : Nat → Prop) (D : va_G) (k : Nat → ClassId) (q : Nat → Nat) (f : Nat → Nat → Int32) (pa : Nat → Option Nat) (v : Nat → Int32) (g_f_1_0 : f 1 0 = 1) (g_f_1_7 : f 1 7 = 1) (g_f_1_12 : f 1 12 = (-1))  :
    Met l yX10_latest (fz_ws yX10_latest cX10_latest 4 (some .int)) { frames := 24, cells := 0, slots := 0, locals := 320 } (va_Pc [.ref (q 0), .int 0] (fz_PC A D (fz_tys k) (fz_WM k q f pa v))) (fz_QI D A (fun (_ : Unit) => fz_WM k q f pa v) (fun (r : Int32) (_ : Unit) => r = (-1))) 0 0 A := by
  refine fz_of (by decide +kernel) (Nat.le_of_ble_eq_true rfl) ?_
  intro p e s m below meth c hx hb hr hml hown hlocks hts hin hA hP hK hD hG hS ls hl
  have hown : s.vm.findClass RX10 = some m.cls := hown
  have S0 : CallFix p m c cX10_latest 4 s [.ref (q 0), .int 0].toArray (fz_ws yX10_latest cX10_latest 4 (some .int)) RX10 := ⟨hx, hb, hml, hown, hts⟩
  have hl : lv_has ls 4 [(0, .ref (q 0)), (1, .int 0)] := hl
  refine lv_iconst (v := (-1)) hx hb dX10_latest_0 (by decide) ?_
  refine lv_istore_n (lv' := [(2, .int (-1)), (0, .ref (q 0)), (1, .int 0)]) hx hb dX10_latest_1 rfl hl (by decide) rfl (fun ls hl => ?_)
  refine lv_iconst (v := 0) hx hb dX10_latest_2 (by decide) ?_
  refine lv_istore_n (lv' := [(3, .int 0), (2, .int (-1)), (0, .ref (q 0)), (1, .int 0)]) hx hb dX10_latest_3 rfl hl (by decide) rfl (fun ls hl => ?_)
  refine lv_iload_n hx hb dX10_latest_4 rfl (lv_at hl 0 rfl) ?_
  refine lv_aload_n hx hb dX10_latest_5 rfl (lv_at hl 2 rfl) ?_
  refine va_get (D := D) (ci := 14) (v := .ref (q 1)) (C := RX10) (T := TX10) (N := 22) hx hb hts (fun w9 h9 => fz_m (fin_X10 w9 h9)) hown hK hP 0 rfl rfl 1 (by decide) (hts _ (fz_m fm_462)) (fun _ h9 => h9) rfl dX10_latest_6 ?_
  refine lv_iconst (v := 0) hx hb dX10_latest_9 (by decide) ?_
  refine va_iald hx hb hK hP 1 0 rfl rfl (fz_vin (by decide)) dX10_latest_10 ?_
  refine fz_I (y := 1) g_f_1_0 ?_
  refine lv_icmp_ge (tgt := 52) hx hb dX10_latest_11 (by decide) (fun c_1 => absurd c_1 (by decide)) (fun c_1 => ?_)
  refine lv_aload_n hx hb dX10_latest_14 rfl (lv_at hl 2 rfl) ?_
  refine lv_iload_n hx hb dX10_latest_15 rfl (lv_at hl 0 rfl) ?_
  refine fz_cVi (As := [.int 0]) (rest := []) S0 (m_isNode l A D k q f pa v 0 g_f_1_0 g_f_1_7) (fz_cwV (C := RX10) 1 hts fm_481 fm_482 fm_483 fm_484 fm_469 rfl rfl ⟨by decide, by decide, by decide +kernel⟩ ⟨Nat.le_of_ble_eq_true rfl, Nat.le_of_ble_eq_true rfl⟩) (va_recv hK hP (ci := 14) (q0 := 0) rfl rfl) (fun _ h9 => h9) (fun a9 h9 => hA a9 (Nat.le_trans hS.1 h9)) hG hS hP hK hD rfl hl.1 rfl (Nat.le_of_ble_eq_true rfl) dX10_latest_16 ⟨Nat.le_of_ble_eq_true rfl, Nat.le_of_ble_eq_true rfl⟩ (fun r_2 u_2 H locs hw hz1 hk1 hP hS => ?_)
  have hP : va_P D vwCl (fz_WM k q f pa v) H := hP
  rcases (show (r_2 = 1 ∧ (0 : Int32) = 0) ∨ (r_2 = 0 ∧ ¬ ((0 : Int32) = 0)) from hw) with ⟨rfl, hq_2⟩ | ⟨rfl, hq_2⟩
  · skip
    refine lv_if_eq (tgt := 44) hx hb dX10_latest_19 (by decide) (fun c_3 => absurd c_3 (by decide)) (fun c_3 => ?_)
    refine lv_aload_n hx hb dX10_latest_22 rfl (lv_at hl 2 rfl) ?_
    refine lv_iload_n hx hb dX10_latest_23 rfl (lv_at hl 0 rfl) ?_
    refine lv_iload_n hx hb dX10_latest_24 rfl (lv_at hl 3 rfl) ?_
    refine fz_cVi (As := [.int 0, .int 0]) (rest := []) S0 (m_isWithin l A D k q f pa v ) (fz_cwV (C := RX10) 2 hts fm_492 fm_493 fm_494 fm_495 fm_469 rfl rfl ⟨by decide, by decide, by decide +kernel⟩ ⟨Nat.le_of_ble_eq_true rfl, Nat.le_of_ble_eq_true rfl⟩) (va_recv hK hP (ci := 14) (q0 := 0) rfl rfl) (fun _ h9 => h9) (fun a9 h9 => hA a9 (Nat.le_trans hS.1 h9)) hG hS hP hK hD rfl hl.1 rfl (Nat.le_of_ble_eq_true rfl) dX10_latest_25 ⟨Nat.le_of_ble_eq_true rfl, Nat.le_of_ble_eq_true rfl⟩ (fun r_4 u_4 H locs hw hz1 hk1 hP hS => ?_)
    have hP : va_P D vwCl (fz_WM k q f pa v) H := hP
    obtain rfl : r_4 = 1 := hw
    refine lv_if_eq (tgt := 44) hx hb dX10_latest_28 (by decide) (fun c_5 => absurd c_5 (by decide)) (fun c_5 => ?_)
    refine lv_iload_n hx hb dX10_latest_31 rfl (lv_at hl 1 rfl) ?_
    refine lv_aload_n hx hb dX10_latest_32 rfl (lv_at hl 2 rfl) ?_
    refine lv_iload_n hx hb dX10_latest_33 rfl (lv_at hl 0 rfl) ?_
    refine lv_iconst (v := 5) hx hb dX10_latest_34 (by decide) ?_
    refine fz_cVi (As := [.int 0, .int 5]) (rest := [.int (-1)]) S0 (m_of5 l A D k q f pa v g_f_1_12) (fz_cwV (C := RX10) 2 hts fm_477 fm_478 fm_479 fm_480 fm_469 rfl rfl ⟨by decide, by decide, by decide +kernel⟩ ⟨Nat.le_of_ble_eq_true rfl, Nat.le_of_ble_eq_true rfl⟩) (va_recv hK hP (ci := 14) (q0 := 0) rfl rfl) (fun _ h9 => h9) (fun a9 h9 => hA a9 (Nat.le_trans hS.1 h9)) hG hS hP hK hD rfl hl.1 rfl (Nat.le_of_ble_eq_true rfl) dX10_latest_35 ⟨Nat.le_of_ble_eq_true rfl, Nat.le_of_ble_eq_true rfl⟩ (fun r_6 u_6 H locs hw hz1 hk1 hP hS => ?_)
    have hP : va_P D vwCl (fz_WM k q f pa v) H := hP
    obtain rfl : r_6 = (-1) := hw
    refine fz_cSi (As := [.int (-1), .int (-1)]) (rest := []) S0 (m_greater l A D k q f pa v ) (fz_cwS 2 hts fm_496 fm_497 fm_498 fm_469 rfl rfl ⟨by decide, by decide, by decide +kernel⟩ ⟨Nat.le_of_ble_eq_true rfl, Nat.le_of_ble_eq_true rfl⟩) (fun _ h9 => h9) (fun a9 h9 => hA a9 (Nat.le_trans hS.1 h9)) hG hS hP hK hD rfl hl.1 rfl (Nat.le_of_ble_eq_true rfl) dX10_latest_38 ⟨Nat.le_of_ble_eq_true rfl, Nat.le_of_ble_eq_true rfl⟩ (fun r_7 u_7 H locs hw hz1 hk1 hP hS => ?_)
    have hP : va_P D vwCl (fz_WM k q f pa v) H := hP
    obtain rfl : r_7 = (-1) := hw
    refine lv_goto (tgt := 45) hx hb dX10_latest_41 (by decide) ?_
    refine lv_istore_n (lv' := [(2, .int (-1)), (3, .int 0), (0, .ref (q 0)), (1, .int 0)]) hx hb dX10_latest_45 rfl hl (by decide) rfl (fun ls hl => ?_)
    refine lv_iinc (v := 1) (lv' := [(3, .int 1), (2, .int (-1)), (0, .ref (q 0)), (1, .int 0)]) hx hb dX10_latest_46 hl (k := 1) rfl (by decide) (by decide) rfl (fun ls hl => ?_)
    refine lv_goto (tgt := 4) hx hb dX10_latest_49 (by decide) ?_
    refine lv_iload_n hx hb dX10_latest_4 rfl (lv_at hl 0 rfl) ?_
    refine lv_aload_n hx hb dX10_latest_5 rfl (lv_at hl 2 rfl) ?_
    refine va_get (D := D) (ci := 14) (v := .ref (q 1)) (C := RX10) (T := TX10) (N := 22) hx hb hts (fun w9 h9 => fz_m (fin_X10 w9 h9)) hown hK hP 0 rfl rfl 1 (by decide) (hts _ (fz_m fm_462)) (fun _ h9 => h9) rfl dX10_latest_6 ?_
    refine lv_iconst (v := 0) hx hb dX10_latest_9 (by decide) ?_
    refine va_iald hx hb hK hP 1 0 rfl rfl (fz_vin (by decide)) dX10_latest_10 ?_
    refine fz_I (y := 1) g_f_1_0 ?_
    refine lv_icmp_ge (tgt := 52) hx hb dX10_latest_11 (by decide) (fun c_8 => ?_) (fun c_8 => absurd (by decide) c_8)
    refine lv_iload_n hx hb dX10_latest_52 rfl (lv_at hl 1 rfl) ?_
    exact fz_iret hx hb hr rfl hlocks hS dX10_latest_53 () rfl hP (Nat.le_of_ble_eq_true rfl) (Nat.le_of_ble_eq_true rfl)
  · skip
    exact (fq_112 hq_2).elim

set_option maxHeartbeats 4000000 in
set_option maxRecDepth 100000 in
theorem m_countBelow (l : Launch) (A : Nat → Prop) (D : va_G) (k : Nat → ClassId) (q : Nat → Nat) (f : Nat → Nat → Int32) (pa : Nat → Option Nat) (v : Nat → Int32) (g_f_1_0 : f 1 0 = 1) (g_f_1_7 : f 1 7 = 1)  :
    Met l yX10_countBelow (fz_ws yX10_countBelow cX10_countBelow 4 (some .int)) { frames := 24, cells := 0, slots := 0, locals := 320 } (va_Pc [.ref (q 0), .int 0] (fz_PC A D (fz_tys k) (fz_WM k q f pa v))) (fz_QI D A (fun (_ : Unit) => fz_WM k q f pa v) (fun (r : Int32) (_ : Unit) => r = 0)) 0 0 A := by
  refine fz_of (by decide +kernel) (Nat.le_of_ble_eq_true rfl) ?_
  intro p e s m below meth c hx hb hr hml hown hlocks hts hin hA hP hK hD hG hS ls hl
  have hown : s.vm.findClass RX10 = some m.cls := hown
  have S0 : CallFix p m c cX10_countBelow 4 s [.ref (q 0), .int 0].toArray (fz_ws yX10_countBelow cX10_countBelow 4 (some .int)) RX10 := ⟨hx, hb, hml, hown, hts⟩
  have hl : lv_has ls 4 [(0, .ref (q 0)), (1, .int 0)] := hl
  refine lv_iconst (v := 0) hx hb dX10_countBelow_0 (by decide) ?_
  refine lv_istore_n (lv' := [(2, .int 0), (0, .ref (q 0)), (1, .int 0)]) hx hb dX10_countBelow_1 rfl hl (by decide) rfl (fun ls hl => ?_)
  refine lv_iconst (v := 0) hx hb dX10_countBelow_2 (by decide) ?_
  refine lv_istore_n (lv' := [(3, .int 0), (2, .int 0), (0, .ref (q 0)), (1, .int 0)]) hx hb dX10_countBelow_3 rfl hl (by decide) rfl (fun ls hl => ?_)
  refine lv_iload_n hx hb dX10_countBelow_4 rfl (lv_at hl 0 rfl) ?_
  refine lv_aload_n hx hb dX10_countBelow_5 rfl (lv_at hl 2 rfl) ?_
  refine va_get (D := D) (ci := 14) (v := .ref (q 1)) (C := RX10) (T := TX10) (N := 22) hx hb hts (fun w9 h9 => fz_m (fin_X10 w9 h9)) hown hK hP 0 rfl rfl 1 (by decide) (hts _ (fz_m fm_462)) (fun _ h9 => h9) rfl dX10_countBelow_6 ?_
  refine lv_iconst (v := 0) hx hb dX10_countBelow_9 (by decide) ?_
  refine va_iald hx hb hK hP 1 0 rfl rfl (fz_vin (by decide)) dX10_countBelow_10 ?_
  refine fz_I (y := 1) g_f_1_0 ?_
  refine lv_icmp_ge (tgt := 50) hx hb dX10_countBelow_11 (by decide) (fun c_1 => absurd c_1 (by decide)) (fun c_1 => ?_)
  refine lv_iload_n hx hb dX10_countBelow_14 rfl (lv_at hl 1 rfl) ?_
  refine lv_aload_n hx hb dX10_countBelow_15 rfl (lv_at hl 2 rfl) ?_
  refine lv_iload_n hx hb dX10_countBelow_16 rfl (lv_at hl 0 rfl) ?_
  refine fz_cVi (As := [.int 0]) (rest := [.int 0]) S0 (m_isNode l A D k q f pa v 0 g_f_1_0 g_f_1_7) (fz_cwV (C := RX10) 1 hts fm_481 fm_482 fm_483 fm_484 fm_469 rfl rfl ⟨by decide, by decide, by decide +kernel⟩ ⟨Nat.le_of_ble_eq_true rfl, Nat.le_of_ble_eq_true rfl⟩) (va_recv hK hP (ci := 14) (q0 := 0) rfl rfl) (fun _ h9 => h9) (fun a9 h9 => hA a9 (Nat.le_trans hS.1 h9)) hG hS hP hK hD rfl hl.1 rfl (Nat.le_of_ble_eq_true rfl) dX10_countBelow_17 ⟨Nat.le_of_ble_eq_true rfl, Nat.le_of_ble_eq_true rfl⟩ (fun r_2 u_2 H locs hw hz1 hk1 hP hS => ?_)
  have hP : va_P D vwCl (fz_WM k q f pa v) H := hP
  rcases (show (r_2 = 1 ∧ (0 : Int32) = 0) ∨ (r_2 = 0 ∧ ¬ ((0 : Int32) = 0)) from hw) with ⟨rfl, hq_2⟩ | ⟨rfl, hq_2⟩
  · skip
    refine lv_if_eq (tgt := 41) hx hb dX10_countBelow_20 (by decide) (fun c_3 => absurd c_3 (by decide)) (fun c_3 => ?_)
    refine lv_aload_n hx hb dX10_countBelow_23 rfl (lv_at hl 2 rfl) ?_
    refine lv_iload_n hx hb dX10_countBelow_24 rfl (lv_at hl 0 rfl) ?_
    refine lv_iload_n hx hb dX10_countBelow_25 rfl (lv_at hl 3 rfl) ?_
    refine fz_cVi (As := [.int 0, .int 0]) (rest := [.int 0]) S0 (m_isWithin l A D k q f pa v ) (fz_cwV (C := RX10) 2 hts fm_492 fm_493 fm_494 fm_495 fm_469 rfl rfl ⟨by decide, by decide, by decide +kernel⟩ ⟨Nat.le_of_ble_eq_true rfl, Nat.le_of_ble_eq_true rfl⟩) (va_recv hK hP (ci := 14) (q0 := 0) rfl rfl) (fun _ h9 => h9) (fun a9 h9 => hA a9 (Nat.le_trans hS.1 h9)) hG hS hP hK hD rfl hl.1 rfl (Nat.le_of_ble_eq_true rfl) dX10_countBelow_26 ⟨Nat.le_of_ble_eq_true rfl, Nat.le_of_ble_eq_true rfl⟩ (fun r_4 u_4 H locs hw hz1 hk1 hP hS => ?_)
    have hP : va_P D vwCl (fz_WM k q f pa v) H := hP
    obtain rfl : r_4 = 1 := hw
    refine lv_if_eq (tgt := 41) hx hb dX10_countBelow_29 (by decide) (fun c_5 => absurd c_5 (by decide)) (fun c_5 => ?_)
    refine lv_iload_n hx hb dX10_countBelow_32 rfl (lv_at hl 0 rfl) ?_
    refine lv_iload_n hx hb dX10_countBelow_33 rfl (lv_at hl 3 rfl) ?_
    refine lv_icmp_eq (tgt := 41) hx hb dX10_countBelow_34 (by decide) (fun c_6 => ?_) (fun c_6 => absurd (by decide) c_6)
    refine lv_iconst (v := 0) hx hb dX10_countBelow_41 (by decide) ?_
    refine lv_iadd hx hb dX10_countBelow_42 ?_
    refine fz_I (y := 0) (by decide) ?_
    refine lv_istore_n (lv' := [(2, .int 0), (3, .int 0), (0, .ref (q 0)), (1, .int 0)]) hx hb dX10_countBelow_43 rfl hl (by decide) rfl (fun ls hl => ?_)
    refine lv_iinc (v := 1) (lv' := [(3, .int 1), (2, .int 0), (0, .ref (q 0)), (1, .int 0)]) hx hb dX10_countBelow_44 hl (k := 1) rfl (by decide) (by decide) rfl (fun ls hl => ?_)
    refine lv_goto (tgt := 4) hx hb dX10_countBelow_47 (by decide) ?_
    refine lv_iload_n hx hb dX10_countBelow_4 rfl (lv_at hl 0 rfl) ?_
    refine lv_aload_n hx hb dX10_countBelow_5 rfl (lv_at hl 2 rfl) ?_
    refine va_get (D := D) (ci := 14) (v := .ref (q 1)) (C := RX10) (T := TX10) (N := 22) hx hb hts (fun w9 h9 => fz_m (fin_X10 w9 h9)) hown hK hP 0 rfl rfl 1 (by decide) (hts _ (fz_m fm_462)) (fun _ h9 => h9) rfl dX10_countBelow_6 ?_
    refine lv_iconst (v := 0) hx hb dX10_countBelow_9 (by decide) ?_
    refine va_iald hx hb hK hP 1 0 rfl rfl (fz_vin (by decide)) dX10_countBelow_10 ?_
    refine fz_I (y := 1) g_f_1_0 ?_
    refine lv_icmp_ge (tgt := 50) hx hb dX10_countBelow_11 (by decide) (fun c_7 => ?_) (fun c_7 => absurd (by decide) c_7)
    refine lv_iload_n hx hb dX10_countBelow_50 rfl (lv_at hl 1 rfl) ?_
    exact fz_iret hx hb hr rfl hlocks hS dX10_countBelow_51 () rfl hP (Nat.le_of_ble_eq_true rfl) (Nat.le_of_ble_eq_true rfl)
  · skip
    exact (fq_112 hq_2).elim

set_option maxHeartbeats 4000000 in
set_option maxRecDepth 100000 in
theorem m_sumPages (l : Launch) (A : Nat → Prop) (D : va_G) (k : Nat → ClassId) (q : Nat → Nat) (f : Nat → Nat → Int32) (pa : Nat → Option Nat) (v : Nat → Int32) (g_f_1_0 : f 1 0 = 1) (g_f_1_7 : f 1 7 = 1) (g_f_1_10 : f 1 10 = 0)  :
    Met l yX10_sumPages (fz_ws yX10_sumPages cX10_sumPages 4 (some .int)) { frames := 24, cells := 0, slots := 0, locals := 320 } (va_Pc [.ref (q 0), .int 0] (fz_PC A D (fz_tys k) (fz_WM k q f pa v))) (fz_QI D A (fun (_ : Unit) => fz_WM k q f pa v) (fun (r : Int32) (_ : Unit) => r = 0)) 0 0 A := by
  refine fz_of (by decide +kernel) (Nat.le_of_ble_eq_true rfl) ?_
  intro p e s m below meth c hx hb hr hml hown hlocks hts hin hA hP hK hD hG hS ls hl
  have hown : s.vm.findClass RX10 = some m.cls := hown
  have S0 : CallFix p m c cX10_sumPages 4 s [.ref (q 0), .int 0].toArray (fz_ws yX10_sumPages cX10_sumPages 4 (some .int)) RX10 := ⟨hx, hb, hml, hown, hts⟩
  have hl : lv_has ls 4 [(0, .ref (q 0)), (1, .int 0)] := hl
  refine lv_iconst (v := 0) hx hb dX10_sumPages_0 (by decide) ?_
  refine lv_istore_n (lv' := [(2, .int 0), (0, .ref (q 0)), (1, .int 0)]) hx hb dX10_sumPages_1 rfl hl (by decide) rfl (fun ls hl => ?_)
  refine lv_iconst (v := 0) hx hb dX10_sumPages_2 (by decide) ?_
  refine lv_istore_n (lv' := [(3, .int 0), (2, .int 0), (0, .ref (q 0)), (1, .int 0)]) hx hb dX10_sumPages_3 rfl hl (by decide) rfl (fun ls hl => ?_)
  refine lv_iload_n hx hb dX10_sumPages_4 rfl (lv_at hl 0 rfl) ?_
  refine lv_aload_n hx hb dX10_sumPages_5 rfl (lv_at hl 2 rfl) ?_
  refine va_get (D := D) (ci := 14) (v := .ref (q 1)) (C := RX10) (T := TX10) (N := 22) hx hb hts (fun w9 h9 => fz_m (fin_X10 w9 h9)) hown hK hP 0 rfl rfl 1 (by decide) (hts _ (fz_m fm_462)) (fun _ h9 => h9) rfl dX10_sumPages_6 ?_
  refine lv_iconst (v := 0) hx hb dX10_sumPages_9 (by decide) ?_
  refine va_iald hx hb hK hP 1 0 rfl rfl (fz_vin (by decide)) dX10_sumPages_10 ?_
  refine fz_I (y := 1) g_f_1_0 ?_
  refine lv_icmp_ge (tgt := 50) hx hb dX10_sumPages_11 (by decide) (fun c_1 => absurd c_1 (by decide)) (fun c_1 => ?_)
  refine lv_iload_n hx hb dX10_sumPages_14 rfl (lv_at hl 1 rfl) ?_
  refine lv_aload_n hx hb dX10_sumPages_15 rfl (lv_at hl 2 rfl) ?_
  refine lv_iload_n hx hb dX10_sumPages_16 rfl (lv_at hl 0 rfl) ?_
  refine fz_cVi (As := [.int 0]) (rest := [.int 0]) S0 (m_isNode l A D k q f pa v 0 g_f_1_0 g_f_1_7) (fz_cwV (C := RX10) 1 hts fm_481 fm_482 fm_483 fm_484 fm_469 rfl rfl ⟨by decide, by decide, by decide +kernel⟩ ⟨Nat.le_of_ble_eq_true rfl, Nat.le_of_ble_eq_true rfl⟩) (va_recv hK hP (ci := 14) (q0 := 0) rfl rfl) (fun _ h9 => h9) (fun a9 h9 => hA a9 (Nat.le_trans hS.1 h9)) hG hS hP hK hD rfl hl.1 rfl (Nat.le_of_ble_eq_true rfl) dX10_sumPages_17 ⟨Nat.le_of_ble_eq_true rfl, Nat.le_of_ble_eq_true rfl⟩ (fun r_2 u_2 H locs hw hz1 hk1 hP hS => ?_)
  have hP : va_P D vwCl (fz_WM k q f pa v) H := hP
  rcases (show (r_2 = 1 ∧ (0 : Int32) = 0) ∨ (r_2 = 0 ∧ ¬ ((0 : Int32) = 0)) from hw) with ⟨rfl, hq_2⟩ | ⟨rfl, hq_2⟩
  · skip
    refine lv_if_eq (tgt := 41) hx hb dX10_sumPages_20 (by decide) (fun c_3 => absurd c_3 (by decide)) (fun c_3 => ?_)
    refine lv_aload_n hx hb dX10_sumPages_23 rfl (lv_at hl 2 rfl) ?_
    refine lv_iload_n hx hb dX10_sumPages_24 rfl (lv_at hl 0 rfl) ?_
    refine lv_iload_n hx hb dX10_sumPages_25 rfl (lv_at hl 3 rfl) ?_
    refine fz_cVi (As := [.int 0, .int 0]) (rest := [.int 0]) S0 (m_isWithin l A D k q f pa v ) (fz_cwV (C := RX10) 2 hts fm_492 fm_493 fm_494 fm_495 fm_469 rfl rfl ⟨by decide, by decide, by decide +kernel⟩ ⟨Nat.le_of_ble_eq_true rfl, Nat.le_of_ble_eq_true rfl⟩) (va_recv hK hP (ci := 14) (q0 := 0) rfl rfl) (fun _ h9 => h9) (fun a9 h9 => hA a9 (Nat.le_trans hS.1 h9)) hG hS hP hK hD rfl hl.1 rfl (Nat.le_of_ble_eq_true rfl) dX10_sumPages_26 ⟨Nat.le_of_ble_eq_true rfl, Nat.le_of_ble_eq_true rfl⟩ (fun r_4 u_4 H locs hw hz1 hk1 hP hS => ?_)
    have hP : va_P D vwCl (fz_WM k q f pa v) H := hP
    obtain rfl : r_4 = 1 := hw
    refine lv_if_eq (tgt := 41) hx hb dX10_sumPages_29 (by decide) (fun c_5 => absurd c_5 (by decide)) (fun c_5 => ?_)
    refine lv_aload_n hx hb dX10_sumPages_32 rfl (lv_at hl 2 rfl) ?_
    refine lv_iload_n hx hb dX10_sumPages_33 rfl (lv_at hl 0 rfl) ?_
    refine lv_iconst (v := 3) hx hb dX10_sumPages_34 (by decide) ?_
    refine fz_cVi (As := [.int 0, .int 3]) (rest := [.int 0]) S0 (m_of3 l A D k q f pa v g_f_1_10) (fz_cwV (C := RX10) 2 hts fm_477 fm_478 fm_479 fm_480 fm_469 rfl rfl ⟨by decide, by decide, by decide +kernel⟩ ⟨Nat.le_of_ble_eq_true rfl, Nat.le_of_ble_eq_true rfl⟩) (va_recv hK hP (ci := 14) (q0 := 0) rfl rfl) (fun _ h9 => h9) (fun a9 h9 => hA a9 (Nat.le_trans hS.1 h9)) hG hS hP hK hD rfl hl.1 rfl (Nat.le_of_ble_eq_true rfl) dX10_sumPages_35 ⟨Nat.le_of_ble_eq_true rfl, Nat.le_of_ble_eq_true rfl⟩ (fun r_6 u_6 H locs hw hz1 hk1 hP hS => ?_)
    have hP : va_P D vwCl (fz_WM k q f pa v) H := hP
    obtain rfl : r_6 = 0 := hw
    refine lv_goto (tgt := 42) hx hb dX10_sumPages_38 (by decide) ?_
    refine lv_iadd hx hb dX10_sumPages_42 ?_
    refine fz_I (y := 0) (by decide) ?_
    refine lv_istore_n (lv' := [(2, .int 0), (3, .int 0), (0, .ref (q 0)), (1, .int 0)]) hx hb dX10_sumPages_43 rfl hl (by decide) rfl (fun ls hl => ?_)
    refine lv_iinc (v := 1) (lv' := [(3, .int 1), (2, .int 0), (0, .ref (q 0)), (1, .int 0)]) hx hb dX10_sumPages_44 hl (k := 1) rfl (by decide) (by decide) rfl (fun ls hl => ?_)
    refine lv_goto (tgt := 4) hx hb dX10_sumPages_47 (by decide) ?_
    refine lv_iload_n hx hb dX10_sumPages_4 rfl (lv_at hl 0 rfl) ?_
    refine lv_aload_n hx hb dX10_sumPages_5 rfl (lv_at hl 2 rfl) ?_
    refine va_get (D := D) (ci := 14) (v := .ref (q 1)) (C := RX10) (T := TX10) (N := 22) hx hb hts (fun w9 h9 => fz_m (fin_X10 w9 h9)) hown hK hP 0 rfl rfl 1 (by decide) (hts _ (fz_m fm_462)) (fun _ h9 => h9) rfl dX10_sumPages_6 ?_
    refine lv_iconst (v := 0) hx hb dX10_sumPages_9 (by decide) ?_
    refine va_iald hx hb hK hP 1 0 rfl rfl (fz_vin (by decide)) dX10_sumPages_10 ?_
    refine fz_I (y := 1) g_f_1_0 ?_
    refine lv_icmp_ge (tgt := 50) hx hb dX10_sumPages_11 (by decide) (fun c_7 => ?_) (fun c_7 => absurd (by decide) c_7)
    refine lv_iload_n hx hb dX10_sumPages_50 rfl (lv_at hl 1 rfl) ?_
    exact fz_iret hx hb hr rfl hlocks hS dX10_sumPages_51 () rfl hP (Nat.le_of_ble_eq_true rfl) (Nat.le_of_ble_eq_true rfl)
  · skip
    exact (fq_112 hq_2).elim

set_option maxHeartbeats 4000000 in
set_option maxRecDepth 100000 in
theorem m_nextChild (l : Launch) (A : Nat → Prop) (D : va_G) (k : Nat → ClassId) (q : Nat → Nat) (f : Nat → Nat → Int32) (pa : Nat → Option Nat) (v : Nat → Int32) (g_f_1_0 : f 1 0 = 1)  :
    Met l yX10_nextChild (fz_ws yX10_nextChild cX10_nextChild 6 (some .int)) { frames := 0, cells := 0, slots := 0, locals := 0 } (va_Pc [.ref (q 0), .int 0, .int (-1)] (fz_PC A D (fz_tys k) (fz_WM k q f pa v))) (fz_QI D A (fun (_ : Unit) => fz_WM k q f pa v) (fun (r : Int32) (_ : Unit) => r = (-1))) 0 0 A := by
  refine fz_of (by decide +kernel) (Nat.le_of_ble_eq_true rfl) ?_
  intro p e s m below meth c hx hb hr hml hown hlocks hts hin hA hP hK hD hG hS ls hl
  have hown : s.vm.findClass RX10 = some m.cls := hown
  have S0 : CallFix p m c cX10_nextChild 6 s [.ref (q 0), .int 0, .int (-1)].toArray (fz_ws yX10_nextChild cX10_nextChild 6 (some .int)) RX10 := ⟨hx, hb, hml, hown, hts⟩
  have hl : lv_has ls 6 [(0, .ref (q 0)), (1, .int 0), (2, .int (-1))] := hl
  refine lv_iconst (v := (-1)) hx hb dX10_nextChild_0 (by decide) ?_
  refine lv_istore_n (lv' := [(3, .int (-1)), (0, .ref (q 0)), (1, .int 0), (2, .int (-1))]) hx hb dX10_nextChild_1 rfl hl (by decide) rfl (fun ls hl => ?_)
  refine lv_iconst (v := 1) hx hb dX10_nextChild_2 (by decide) ?_
  refine lv_istore (lv' := [(4, .int 1), (3, .int (-1)), (0, .ref (q 0)), (1, .int 0), (2, .int (-1))]) hx hb dX10_nextChild_3 hl (by decide) rfl (fun ls hl => ?_)
  refine lv_iload hx hb dX10_nextChild_5 (lv_at hl 0 rfl) ?_
  refine lv_aload_n hx hb dX10_nextChild_7 rfl (lv_at hl 2 rfl) ?_
  refine va_get (D := D) (ci := 14) (v := .ref (q 1)) (C := RX10) (T := TX10) (N := 22) hx hb hts (fun w9 h9 => fz_m (fin_X10 w9 h9)) hown hK hP 0 rfl rfl 1 (by decide) (hts _ (fz_m fm_462)) (fun _ h9 => h9) rfl dX10_nextChild_8 ?_
  refine lv_iconst (v := 0) hx hb dX10_nextChild_11 (by decide) ?_
  refine va_iald hx hb hK hP 1 0 rfl rfl (fz_vin (by decide)) dX10_nextChild_12 ?_
  refine fz_I (y := 1) g_f_1_0 ?_
  refine lv_icmp_ge (tgt := 95) hx hb dX10_nextChild_13 (by decide) (fun c_1 => ?_) (fun c_1 => absurd (by decide) c_1)
  refine lv_iload_n hx hb dX10_nextChild_95 rfl (lv_at hl 1 rfl) ?_
  exact fz_iret hx hb hr rfl hlocks hS dX10_nextChild_96 () rfl hP (Nat.le_of_ble_eq_true rfl) (Nat.le_of_ble_eq_true rfl)

set_option maxHeartbeats 4000000 in
set_option maxRecDepth 100000 in
theorem m_countChildren (l : Launch) (A : Nat → Prop) (D : va_G) (k : Nat → ClassId) (q : Nat → Nat) (f : Nat → Nat → Int32) (pa : Nat → Option Nat) (v : Nat → Int32) (g_f_1_0 : f 1 0 = 1)  :
    Met l yX10_countChildren (fz_ws yX10_countChildren cX10_countChildren 4 (some .int)) { frames := 12, cells := 0, slots := 0, locals := 160 } (va_Pc [.ref (q 0), .int 0] (fz_PC A D (fz_tys k) (fz_WM k q f pa v))) (fz_QI D A (fun (_ : Unit) => fz_WM k q f pa v) (fun (r : Int32) (_ : Unit) => r = 0)) 0 0 A := by
  refine fz_of (by decide +kernel) (Nat.le_of_ble_eq_true rfl) ?_
  intro p e s m below meth c hx hb hr hml hown hlocks hts hin hA hP hK hD hG hS ls hl
  have hown : s.vm.findClass RX10 = some m.cls := hown
  have S0 : CallFix p m c cX10_countChildren 4 s [.ref (q 0), .int 0].toArray (fz_ws yX10_countChildren cX10_countChildren 4 (some .int)) RX10 := ⟨hx, hb, hml, hown, hts⟩
  have hl : lv_has ls 4 [(0, .ref (q 0)), (1, .int 0)] := hl
  refine lv_iconst (v := 0) hx hb dX10_countChildren_0 (by decide) ?_
  refine lv_istore_n (lv' := [(2, .int 0), (0, .ref (q 0)), (1, .int 0)]) hx hb dX10_countChildren_1 rfl hl (by decide) rfl (fun ls hl => ?_)
  refine lv_aload_n hx hb dX10_countChildren_2 rfl (lv_at hl 1 rfl) ?_
  refine lv_iload_n hx hb dX10_countChildren_3 rfl (lv_at hl 2 rfl) ?_
  refine lv_iconst (v := (-1)) hx hb dX10_countChildren_4 (by decide) ?_
  refine fz_cVi (As := [.int 0, .int (-1)]) (rest := []) S0 (m_nextChild l A D k q f pa v g_f_1_0) (fz_cwV (C := RX10) 2 hts fm_499 fm_500 fm_501 fm_502 fm_469 rfl rfl ⟨by decide, by decide, by decide +kernel⟩ ⟨Nat.le_of_ble_eq_true rfl, Nat.le_of_ble_eq_true rfl⟩) (va_recv hK hP (ci := 14) (q0 := 0) rfl rfl) (fun _ h9 => h9) (fun a9 h9 => hA a9 (Nat.le_trans hS.1 h9)) hG hS hP hK hD rfl hl.1 rfl (Nat.le_of_ble_eq_true rfl) dX10_countChildren_5 ⟨Nat.le_of_ble_eq_true rfl, Nat.le_of_ble_eq_true rfl⟩ (fun r_1 u_1 H locs hw hz1 hk1 hP hS => ?_)
  have hP : va_P D vwCl (fz_WM k q f pa v) H := hP
  obtain rfl : r_1 = (-1) := hw
  refine lv_istore_n (lv' := [(3, .int (-1)), (2, .int 0), (0, .ref (q 0)), (1, .int 0)]) hx hb dX10_countChildren_8 rfl hl (by decide) rfl (fun ls hl => ?_)
  refine lv_iload_n hx hb dX10_countChildren_9 rfl (lv_at hl 0 rfl) ?_
  refine lv_if_lt (tgt := 32) hx hb dX10_countChildren_10 (by decide) (fun c_2 => ?_) (fun c_2 => absurd (by decide) c_2)
  refine lv_iload_n hx hb dX10_countChildren_32 rfl (lv_at hl 1 rfl) ?_
  exact fz_iret hx hb hr rfl hlocks hS dX10_countChildren_33 () rfl hP (Nat.le_of_ble_eq_true rfl) (Nat.le_of_ble_eq_true rfl)

set_option maxHeartbeats 4000000 in
set_option maxRecDepth 100000 in
theorem m_isCopy (l : Launch) (A : Nat → Prop) (D : va_G) (k : Nat → ClassId) (q : Nat → Nat) (f : Nat → Nat → Int32) (pa : Nat → Option Nat) (v : Nat → Int32) (p0 : Int32) (g_f_1_3 : f 1 3 = 0)  :
    Met l yX10_isCopy (fz_ws yX10_isCopy cX10_isCopy 2 (some .boolean)) { frames := 12, cells := 0, slots := 0, locals := 160 } (va_Pc [.ref (q 0), .int p0] (fz_PC A D (fz_tys k) (fz_WM k q f pa v))) (fz_QI D A (fun (_ : Unit) => fz_WM k q f pa v) (fun (r : Int32) (_ : Unit) => r = 0)) 0 0 A := by
  refine fz_of (by decide +kernel) (Nat.le_of_ble_eq_true rfl) ?_
  intro p e s m below meth c hx hb hr hml hown hlocks hts hin hA hP hK hD hG hS ls hl
  have hown : s.vm.findClass RX10 = some m.cls := hown
  have S0 : CallFix p m c cX10_isCopy 2 s [.ref (q 0), .int p0].toArray (fz_ws yX10_isCopy cX10_isCopy 2 (some .boolean)) RX10 := ⟨hx, hb, hml, hown, hts⟩
  have hl : lv_has ls 2 [(0, .ref (q 0)), (1, .int p0)] := hl
  refine lv_iload_n hx hb dX10_isCopy_0 rfl (lv_at hl 1 rfl) ?_
  refine lv_iconst (v := 0) hx hb dX10_isCopy_1 (by decide) ?_
  refine lv_aload_n hx hb dX10_isCopy_2 rfl (lv_at hl 0 rfl) ?_
  refine va_get (D := D) (ci := 14) (v := .ref (q 1)) (C := RX10) (T := TX10) (N := 22) hx hb hts (fun w9 h9 => fz_m (fin_X10 w9 h9)) hown hK hP 0 rfl rfl 1 (by decide) (hts _ (fz_m fm_462)) (fun _ h9 => h9) rfl dX10_isCopy_3 ?_
  refine lv_iconst (v := 3) hx hb dX10_isCopy_6 (by decide) ?_
  refine va_iald hx hb hK hP 1 0 rfl rfl (fz_vin (by decide)) dX10_isCopy_7 ?_
  refine fz_I (y := 0) g_f_1_3 ?_
  refine lv_iconst (v := 1) hx hb dX10_isCopy_8 (by decide) ?_
  refine lv_isub hx hb dX10_isCopy_9 ?_
  refine fz_I (y := (-1)) (by decide) ?_
  refine fz_cSi (As := [.int p0, .int 0, .int (-1)]) (rest := []) S0 (m_isBetween l A D k q f pa v p0 0 (-1)) (fz_cwS 3 hts fm_474 fm_475 fm_476 fm_469 rfl rfl ⟨by decide, by decide, by decide +kernel⟩ ⟨Nat.le_of_ble_eq_true rfl, Nat.le_of_ble_eq_true rfl⟩) (fun _ h9 => h9) (fun a9 h9 => hA a9 (Nat.le_trans hS.1 h9)) hG hS hP hK hD rfl hl.1 rfl (Nat.le_of_ble_eq_true rfl) dX10_isCopy_10 ⟨Nat.le_of_ble_eq_true rfl, Nat.le_of_ble_eq_true rfl⟩ (fun r_1 u_1 H locs hw hz1 hk1 hP hS => ?_)
  have hP : va_P D vwCl (fz_WM k q f pa v) H := hP
  rcases (show (r_1 = 1 ∧ (0 ≤ p0 ∧ p0 ≤ (-1))) ∨ (r_1 = 0 ∧ ¬ ((0 ≤ p0 ∧ p0 ≤ (-1)))) from hw) with ⟨rfl, hq_1⟩ | ⟨rfl, hq_1⟩
  · skip
    exact (fq_113 p0 hq_1).elim
  · skip
    refine lv_if_eq (tgt := 30) hx hb dX10_isCopy_13 (by decide) (fun c_2 => ?_) (fun c_2 => absurd (by decide) c_2)
    refine lv_iconst (v := 0) hx hb dX10_isCopy_30 (by decide) ?_
    exact fz_iret hx hb hr rfl hlocks hS dX10_isCopy_31 () rfl hP (Nat.le_of_ble_eq_true rfl) (Nat.le_of_ble_eq_true rfl)

set_option maxHeartbeats 4000000 in
set_option maxRecDepth 100000 in
theorem m_countCopies (l : Launch) (A : Nat → Prop) (D : va_G) (k : Nat → ClassId) (q : Nat → Nat) (f : Nat → Nat → Int32) (pa : Nat → Option Nat) (v : Nat → Int32) (g_f_1_3 : f 1 3 = 0)  :
    Met l yX10_countCopies (fz_ws yX10_countCopies cX10_countCopies 4 (some .int)) { frames := 0, cells := 0, slots := 0, locals := 0 } (va_Pc [.ref (q 0), .int 0] (fz_PC A D (fz_tys k) (fz_WM k q f pa v))) (fz_QI D A (fun (_ : Unit) => fz_WM k q f pa v) (fun (r : Int32) (_ : Unit) => r = 0)) 0 0 A := by
  refine fz_of (by decide +kernel) (Nat.le_of_ble_eq_true rfl) ?_
  intro p e s m below meth c hx hb hr hml hown hlocks hts hin hA hP hK hD hG hS ls hl
  have hown : s.vm.findClass RX10 = some m.cls := hown
  have S0 : CallFix p m c cX10_countCopies 4 s [.ref (q 0), .int 0].toArray (fz_ws yX10_countCopies cX10_countCopies 4 (some .int)) RX10 := ⟨hx, hb, hml, hown, hts⟩
  have hl : lv_has ls 4 [(0, .ref (q 0)), (1, .int 0)] := hl
  refine lv_iconst (v := 0) hx hb dX10_countCopies_0 (by decide) ?_
  refine lv_istore_n (lv' := [(2, .int 0), (0, .ref (q 0)), (1, .int 0)]) hx hb dX10_countCopies_1 rfl hl (by decide) rfl (fun ls hl => ?_)
  refine lv_iconst (v := 0) hx hb dX10_countCopies_2 (by decide) ?_
  refine lv_istore_n (lv' := [(3, .int 0), (2, .int 0), (0, .ref (q 0)), (1, .int 0)]) hx hb dX10_countCopies_3 rfl hl (by decide) rfl (fun ls hl => ?_)
  refine lv_iload_n hx hb dX10_countCopies_4 rfl (lv_at hl 0 rfl) ?_
  refine lv_aload_n hx hb dX10_countCopies_5 rfl (lv_at hl 2 rfl) ?_
  refine va_get (D := D) (ci := 14) (v := .ref (q 1)) (C := RX10) (T := TX10) (N := 22) hx hb hts (fun w9 h9 => fz_m (fin_X10 w9 h9)) hown hK hP 0 rfl rfl 1 (by decide) (hts _ (fz_m fm_462)) (fun _ h9 => h9) rfl dX10_countCopies_6 ?_
  refine lv_iconst (v := 3) hx hb dX10_countCopies_9 (by decide) ?_
  refine va_iald hx hb hK hP 1 0 rfl rfl (fz_vin (by decide)) dX10_countCopies_10 ?_
  refine fz_I (y := 0) g_f_1_3 ?_
  refine lv_icmp_ge (tgt := 46) hx hb dX10_countCopies_11 (by decide) (fun c_1 => ?_) (fun c_1 => absurd (by decide) c_1)
  refine lv_iload_n hx hb dX10_countCopies_46 rfl (lv_at hl 1 rfl) ?_
  exact fz_iret hx hb hr rfl hlocks hS dX10_countCopies_47 () rfl hP (Nat.le_of_ble_eq_true rfl) (Nat.le_of_ble_eq_true rfl)

set_option maxHeartbeats 4000000 in
set_option maxRecDepth 100000 in
theorem m_findTermM (l : Launch) (A : Nat → Prop) (D : va_G) (k : Nat → ClassId) (q : Nat → Nat) (f : Nat → Nat → Int32) (pa : Nat → Option Nat) (v : Nat → Int32)   :
    Met l yX10_findTerm (fz_ws yX10_findTerm cX10_findTerm 4 none) { frames := 0, cells := 0, slots := 0, locals := 0 } (va_Pc [.ref (q 0), .int (-1)] (fz_PC A D (fz_tys k) (fz_WM k q f pa v))) (fz_QV D A (fun (_ : Unit) => fz_WM k q f pa (va_up (va_up v 7 0) 8 (-1))) (fun (_ : Unit) => True)) 0 0 A := by
  refine fz_of (by decide +kernel) (Nat.le_of_ble_eq_true rfl) ?_
  intro p e s m below meth c hx hb hr hml hown hlocks hts hin hA hP hK hD hG hS ls hl
  have hown : s.vm.findClass RX10 = some m.cls := hown
  have S0 : CallFix p m c cX10_findTerm 4 s [.ref (q 0), .int (-1)].toArray (fz_ws yX10_findTerm cX10_findTerm 4 none) RX10 := ⟨hx, hb, hml, hown, hts⟩
  have hl : lv_has ls 4 [(0, .ref (q 0)), (1, .int (-1))] := hl
  refine lv_iload_n hx hb dX10_findTerm_0 rfl (lv_at hl 1 rfl) ?_
  refine lv_if_ge (tgt := 15) hx hb dX10_findTerm_1 (by decide) (fun c_1 => absurd c_1 (by decide)) (fun c_1 => ?_)
  refine lv_aload_n hx hb dX10_findTerm_4 rfl (lv_at hl 0 rfl) ?_
  refine lv_iconst (v := 0) hx hb dX10_findTerm_5 (by decide) ?_
  refine va_put (D := D) (ci := 14) (v := .int 0) (ty := .int) (C := RX10) (T := TX10) (N := 22) hx hb hts (fun w9 h9 => fz_m (fin_X10 w9 h9)) tyX10 tyX10_ok nmX10 hown hK hP hD hS 0 rfl rfl 7 (by decide) (hts _ (fz_m fm_503)) (fun _ h9 => h9) rfl (by decide +kernel) rfl rfl (Nat.le_of_ble_eq_true rfl) dX10_findTerm_6 (fun H locs hP hD hS => ?_)
  have hP : va_P D vwCl (fz_WM k q f pa (va_up v 7 0)) H := hP
  have hD : va_D A (fz_WM k q f pa (va_up v 7 0)) := hD
  refine lv_aload_n hx hb dX10_findTerm_9 rfl (lv_at hl 0 rfl) ?_
  refine lv_iconst (v := (-1)) hx hb dX10_findTerm_10 (by decide) ?_
  refine va_put (D := D) (ci := 14) (v := .int (-1)) (ty := .int) (C := RX10) (T := TX10) (N := 22) hx hb hts (fun w9 h9 => fz_m (fin_X10 w9 h9)) tyX10 tyX10_ok nmX10 hown hK hP hD hS 0 rfl rfl 8 (by decide) (hts _ (fz_m fm_504)) (fun _ h9 => h9) rfl (by decide +kernel) rfl rfl (Nat.le_of_ble_eq_true rfl) dX10_findTerm_11 (fun H locs hP hD hS => ?_)
  have hP : va_P D vwCl (fz_WM k q f pa (va_up (va_up v 7 0) 8 (-1))) H := hP
  have hD : va_D A (fz_WM k q f pa (va_up (va_up v 7 0) 8 (-1))) := hD
  exact fz_vret hx hb hr hlocks hS dX10_findTerm_14 () trivial hP (Nat.le_of_ble_eq_true rfl) (Nat.le_of_ble_eq_true rfl)

set_option maxHeartbeats 4000000 in
set_option maxRecDepth 100000 in
theorem m_findTerm (l : Launch) (A : Nat → Prop) (D : va_G) (k : Nat → ClassId) (q : Nat → Nat) (f : Nat → Nat → Int32) (pa : Nat → Option Nat) (v : Nat → Int32) (g_f_1_9 : f 1 9 = (-1)) (g_f_1_13 : f 1 13 = (-1))  :
    Met l yX10_findTerm (fz_ws yX10_findTerm cX10_findTerm 4 none) { frames := 12, cells := 0, slots := 0, locals := 160 } (va_Pc [.ref (q 0), .int 0] (fz_PC A D (fz_tys k) (fz_WM k q f pa v))) (fz_QV D A (fun (_ : Unit) => fz_WM k q f pa (va_up (va_up v 7 0) 8 (-1))) (fun (_ : Unit) => True)) 0 0 A := by
  refine fz_of (by decide +kernel) (Nat.le_of_ble_eq_true rfl) ?_
  intro p e s m below meth c hx hb hr hml hown hlocks hts hin hA hP hK hD hG hS ls hl
  have hown : s.vm.findClass RX10 = some m.cls := hown
  have S0 : CallFix p m c cX10_findTerm 4 s [.ref (q 0), .int 0].toArray (fz_ws yX10_findTerm cX10_findTerm 4 none) RX10 := ⟨hx, hb, hml, hown, hts⟩
  have hl : lv_has ls 4 [(0, .ref (q 0)), (1, .int 0)] := hl
  refine lv_iload_n hx hb dX10_findTerm_0 rfl (lv_at hl 1 rfl) ?_
  refine lv_if_ge (tgt := 15) hx hb dX10_findTerm_1 (by decide) (fun c_1 => ?_) (fun c_1 => absurd (by decide) c_1)
  refine lv_aload_n hx hb dX10_findTerm_15 rfl (lv_at hl 0 rfl) ?_
  refine lv_aload_n hx hb dX10_findTerm_16 rfl (lv_at hl 0 rfl) ?_
  refine lv_iload_n hx hb dX10_findTerm_17 rfl (lv_at hl 1 rfl) ?_
  refine lv_iconst (v := 2) hx hb dX10_findTerm_18 (by decide) ?_
  refine fz_cVi (As := [.int 0, .int 2]) (rest := [.ref (q 0)]) S0 (m_of2 l A D k q f pa v g_f_1_9) (fz_cwV (C := RX10) 2 hts fm_477 fm_478 fm_479 fm_480 fm_469 rfl rfl ⟨by decide, by decide, by decide +kernel⟩ ⟨Nat.le_of_ble_eq_true rfl, Nat.le_of_ble_eq_true rfl⟩) (va_recv hK hP (ci := 14) (q0 := 0) rfl rfl) (fun _ h9 => h9) (fun a9 h9 => hA a9 (Nat.le_trans hS.1 h9)) hG hS hP hK hD rfl hl.1 rfl (Nat.le_of_ble_eq_true rfl) dX10_findTerm_19 ⟨Nat.le_of_ble_eq_true rfl, Nat.le_of_ble_eq_true rfl⟩ (fun r_2 u_2 H locs hw hz1 hk1 hP hS => ?_)
  have hP : va_P D vwCl (fz_WM k q f pa v) H := hP
  obtain rfl : r_2 = (-1) := hw
  refine fz_cVv (As := [.int (-1)]) (rest := []) S0 (m_findTermM l A D k q f pa v ) (fz_cwV (C := RX10) 1 hts fm_505 fm_506 fm_507 fm_508 fm_469 rfl rfl ⟨by decide, by decide, by decide +kernel⟩ ⟨Nat.le_of_ble_eq_true rfl, Nat.le_of_ble_eq_true rfl⟩) (va_recv hK hP (ci := 14) (q0 := 0) rfl rfl) (fun _ h9 => h9) (fun a9 h9 => hA a9 (Nat.le_trans hS.1 h9)) hG hS hP hK hD rfl hl.1 rfl (Nat.le_of_ble_eq_true rfl) dX10_findTerm_22 ⟨Nat.le_of_ble_eq_true rfl, Nat.le_of_ble_eq_true rfl⟩ (fun u_3 H locs hw hz1 hk1 hP hS => ?_)
  have hP : va_P D vwCl (fz_WM k q f pa (va_up (va_up v 7 0) 8 (-1))) H := hP
  have hD : va_D A (fz_WM k q f pa (va_up (va_up v 7 0) 8 (-1))) := fz_Dsame hD rfl
  refine lv_aload_n hx hb dX10_findTerm_25 rfl (lv_at hl 0 rfl) ?_
  refine lv_iload_n hx hb dX10_findTerm_26 rfl (lv_at hl 1 rfl) ?_
  refine lv_bipush (v := 6) hx hb dX10_findTerm_27 (by decide) ?_
  refine fz_cVi (As := [.int 0, .int 6]) (rest := []) S0 (m_of6 l A D k q f pa (va_up (va_up v 7 0) 8 (-1)) g_f_1_13) (fz_cwV (C := RX10) 2 hts fm_477 fm_478 fm_479 fm_480 fm_469 rfl rfl ⟨by decide, by decide, by decide +kernel⟩ ⟨Nat.le_of_ble_eq_true rfl, Nat.le_of_ble_eq_true rfl⟩) (va_recv hK hP (ci := 14) (q0 := 0) rfl rfl) (fun _ h9 => h9) (fun a9 h9 => hA a9 (Nat.le_trans hS.1 h9)) hG hS hP hK hD rfl hl.1 rfl (Nat.le_of_ble_eq_true rfl) dX10_findTerm_29 ⟨Nat.le_of_ble_eq_true rfl, Nat.le_of_ble_eq_true rfl⟩ (fun r_4 u_4 H locs hw hz1 hk1 hP hS => ?_)
  have hP : va_P D vwCl (fz_WM k q f pa (va_up (va_up v 7 0) 8 (-1))) H := hP
  obtain rfl : r_4 = (-1) := hw
  refine lv_istore_n (lv' := [(2, .int (-1)), (0, .ref (q 0)), (1, .int 0)]) hx hb dX10_findTerm_32 rfl hl (by decide) rfl (fun ls hl => ?_)
  refine lv_aload_n hx hb dX10_findTerm_33 rfl (lv_at hl 1 rfl) ?_
  refine lv_iload_n hx hb dX10_findTerm_34 rfl (lv_at hl 2 rfl) ?_
  refine lv_bipush (v := 7) hx hb dX10_findTerm_35 (by decide) ?_
  refine fz_cVi (As := [.int 0, .int 7]) (rest := []) S0 (m_of7 l A D k q f pa (va_up (va_up v 7 0) 8 (-1)) ) (fz_cwV (C := RX10) 2 hts fm_477 fm_478 fm_479 fm_480 fm_469 rfl rfl ⟨by decide, by decide, by decide +kernel⟩ ⟨Nat.le_of_ble_eq_true rfl, Nat.le_of_ble_eq_true rfl⟩) (va_recv hK hP (ci := 14) (q0 := 0) rfl rfl) (fun _ h9 => h9) (fun a9 h9 => hA a9 (Nat.le_trans hS.1 h9)) hG hS hP hK hD rfl hl.1 rfl (Nat.le_of_ble_eq_true rfl) dX10_findTerm_37 ⟨Nat.le_of_ble_eq_true rfl, Nat.le_of_ble_eq_true rfl⟩ (fun r_5 u_5 H locs hw hz1 hk1 hP hS => ?_)
  have hP : va_P D vwCl (fz_WM k q f pa (va_up (va_up v 7 0) 8 (-1))) H := hP
  refine lv_istore_n (lv' := [(3, .int r_5), (2, .int (-1)), (0, .ref (q 0)), (1, .int 0)]) hx hb dX10_findTerm_40 rfl hl (by decide) rfl (fun ls hl => ?_)
  refine lv_iload_n hx hb dX10_findTerm_41 rfl (lv_at hl 1 rfl) ?_
  refine lv_iconst (v := 1) hx hb dX10_findTerm_42 (by decide) ?_
  refine lv_icmp_eq (tgt := 58) hx hb dX10_findTerm_43 (by decide) (fun c_6 => absurd c_6 (by decide)) (fun c_6 => ?_)
  refine lv_iload_n hx hb dX10_findTerm_46 rfl (lv_at hl 1 rfl) ?_
  refine lv_if_ne (tgt := 68) hx hb dX10_findTerm_47 (by decide) (fun c_7 => ?_) (fun c_7 => absurd c_7 (by decide))
  refine lv_iload_n hx hb dX10_findTerm_68 rfl (lv_at hl 1 rfl) ?_
  refine lv_iconst (v := 2) hx hb dX10_findTerm_69 (by decide) ?_
  refine lv_icmp_ne (tgt := 83) hx hb dX10_findTerm_70 (by decide) (fun c_8 => ?_) (fun c_8 => absurd c_8 (by decide))
  exact fz_vret hx hb hr hlocks hS dX10_findTerm_83 () trivial hP (Nat.le_of_ble_eq_true rfl) (Nat.le_of_ble_eq_true rfl)

set_option maxHeartbeats 4000000 in
set_option maxRecDepth 100000 in
theorem m_lastClosed (l : Launch) (A : Nat → Prop) (D : va_G) (k : Nat → ClassId) (q : Nat → Nat) (f : Nat → Nat → Int32) (pa : Nat → Option Nat) (v : Nat → Int32) (g_f_1_9 : f 1 9 = (-1)) (g_f_1_13 : f 1 13 = (-1)) (g_f_1_0 : f 1 0 = 1) (g_f_1_7 : f 1 7 = 1) (g_f_1_12 : f 1 12 = (-1))  :
    Met l yX10_lastClosed (fz_ws yX10_lastClosed cX10_lastClosed 3 (some .int)) { frames := 36, cells := 0, slots := 0, locals := 480 } (va_Pc [.ref (q 0), .int 0] (fz_PC A D (fz_tys k) (fz_WM k q f pa v))) (fz_QI D A (fun (_ : Unit) => fz_WM k q f pa (va_up (va_up v 7 0) 8 (-1))) (fun (r : Int32) (_ : Unit) => r = (-1))) 0 0 A := by
  refine fz_of (by decide +kernel) (Nat.le_of_ble_eq_true rfl) ?_
  intro p e s m below meth c hx hb hr hml hown hlocks hts hin hA hP hK hD hG hS ls hl
  have hown : s.vm.findClass RX10 = some m.cls := hown
  have S0 : CallFix p m c cX10_lastClosed 3 s [.ref (q 0), .int 0].toArray (fz_ws yX10_lastClosed cX10_lastClosed 3 (some .int)) RX10 := ⟨hx, hb, hml, hown, hts⟩
  have hl : lv_has ls 3 [(0, .ref (q 0)), (1, .int 0)] := hl
  refine lv_aload_n hx hb dX10_lastClosed_0 rfl (lv_at hl 0 rfl) ?_
  refine lv_iload_n hx hb dX10_lastClosed_1 rfl (lv_at hl 1 rfl) ?_
  refine fz_cVv (As := [.int 0]) (rest := []) S0 (m_findTerm l A D k q f pa v g_f_1_9 g_f_1_13) (fz_cwV (C := RX10) 1 hts fm_505 fm_506 fm_507 fm_508 fm_469 rfl rfl ⟨by decide, by decide, by decide +kernel⟩ ⟨Nat.le_of_ble_eq_true rfl, Nat.le_of_ble_eq_true rfl⟩) (va_recv hK hP (ci := 14) (q0 := 0) rfl rfl) (fun _ h9 => h9) (fun a9 h9 => hA a9 (Nat.le_trans hS.1 h9)) hG hS hP hK hD rfl hl.1 rfl (Nat.le_of_ble_eq_true rfl) dX10_lastClosed_2 ⟨Nat.le_of_ble_eq_true rfl, Nat.le_of_ble_eq_true rfl⟩ (fun u_1 H locs hw hz1 hk1 hP hS => ?_)
  have hP : va_P D vwCl (fz_WM k q f pa (va_up (va_up v 7 0) 8 (-1))) H := hP
  have hD : va_D A (fz_WM k q f pa (va_up (va_up v 7 0) 8 (-1))) := fz_Dsame hD rfl
  refine lv_aload_n hx hb dX10_lastClosed_5 rfl (lv_at hl 0 rfl) ?_
  refine lv_iload_n hx hb dX10_lastClosed_6 rfl (lv_at hl 1 rfl) ?_
  refine fz_cVi (As := [.int 0]) (rest := []) S0 (m_latest l A D k q f pa (va_up (va_up v 7 0) 8 (-1)) g_f_1_0 g_f_1_7 g_f_1_12) (fz_cwV (C := RX10) 1 hts fm_509 fm_510 fm_511 fm_512 fm_469 rfl rfl ⟨by decide, by decide, by decide +kernel⟩ ⟨Nat.le_of_ble_eq_true rfl, Nat.le_of_ble_eq_true rfl⟩) (va_recv hK hP (ci := 14) (q0 := 0) rfl rfl) (fun _ h9 => h9) (fun a9 h9 => hA a9 (Nat.le_trans hS.1 h9)) hG hS hP hK hD rfl hl.1 rfl (Nat.le_of_ble_eq_true rfl) dX10_lastClosed_7 ⟨Nat.le_of_ble_eq_true rfl, Nat.le_of_ble_eq_true rfl⟩ (fun r_2 u_2 H locs hw hz1 hk1 hP hS => ?_)
  have hP : va_P D vwCl (fz_WM k q f pa (va_up (va_up v 7 0) 8 (-1))) H := hP
  obtain rfl : r_2 = (-1) := hw
  refine lv_istore_n (lv' := [(2, .int (-1)), (0, .ref (q 0)), (1, .int 0)]) hx hb dX10_lastClosed_10 rfl hl (by decide) rfl (fun ls hl => ?_)
  refine lv_aload_n hx hb dX10_lastClosed_11 rfl (lv_at hl 1 rfl) ?_
  refine va_get (D := D) (ci := 14) (v := .int ((va_up (va_up v 7 0) 8 (-1)) 7)) (C := RX10) (T := TX10) (N := 22) hx hb hts (fun w9 h9 => fz_m (fin_X10 w9 h9)) hown hK hP 0 rfl rfl 7 (by decide) (hts _ (fz_m fm_503)) (fun _ h9 => h9) rfl dX10_lastClosed_12 ?_
  refine fz_I (y := 0) rfl ?_
  refine lv_if_ne (tgt := 22) hx hb dX10_lastClosed_15 (by decide) (fun c_3 => absurd (by decide) c_3) (fun c_3 => ?_)
  refine lv_iconst (v := (-1)) hx hb dX10_lastClosed_18 (by decide) ?_
  refine lv_goto (tgt := 37) hx hb dX10_lastClosed_19 (by decide) ?_
  exact fz_iret hx hb hr rfl hlocks hS dX10_lastClosed_37 () rfl hP (Nat.le_of_ble_eq_true rfl) (Nat.le_of_ble_eq_true rfl)

set_option maxHeartbeats 4000000 in
set_option maxRecDepth 100000 in
theorem m_openSet (l : Launch) (A : Nat → Prop) (D : va_G) (k : Nat → ClassId) (q : Nat → Nat) (f : Nat → Nat → Int32) (pa : Nat → Option Nat) (v : Nat → Int32) (p0 : Int32) (g_f_1_9 : f 1 9 = (-1)) (g_f_1_13 : f 1 13 = (-1)) (g_f_1_0 : f 1 0 = 1) (g_f_1_7 : f 1 7 = 1) (g_f_1_12 : f 1 12 = (-1)) (g_f_1_10 : f 1 10 = 0)  :
    Met l yX10_openSet (fz_ws yX10_openSet cX10_openSet 6 (some .int)) { frames := 48, cells := 0, slots := 0, locals := 640 } (va_Pc [.ref (q 0), .int 0, .int p0] (fz_PC A D (fz_tys k) (fz_WM k q f pa v))) (fz_QI D A (fun (_ : Unit) => fz_WM k q f pa (va_up (va_up v 7 0) 8 (-1))) (fun (r : Int32) (_ : Unit) => r = 0)) 0 0 A := by
  refine fz_of (by decide +kernel) (Nat.le_of_ble_eq_true rfl) ?_
  intro p e s m below meth c hx hb hr hml hown hlocks hts hin hA hP hK hD hG hS ls hl
  have hown : s.vm.findClass RX10 = some m.cls := hown
  have S0 : CallFix p m c cX10_openSet 6 s [.ref (q 0), .int 0, .int p0].toArray (fz_ws yX10_openSet cX10_openSet 6 (some .int)) RX10 := ⟨hx, hb, hml, hown, hts⟩
  have hl : lv_has ls 6 [(0, .ref (q 0)), (1, .int 0), (2, .int p0)] := hl
  refine lv_iconst (v := 0) hx hb dX10_openSet_0 (by decide) ?_
  refine lv_istore_n (lv' := [(3, .int 0), (0, .ref (q 0)), (1, .int 0), (2, .int p0)]) hx hb dX10_openSet_1 rfl hl (by decide) rfl (fun ls hl => ?_)
  refine lv_aload_n hx hb dX10_openSet_2 rfl (lv_at hl 1 rfl) ?_
  refine lv_iload_n hx hb dX10_openSet_3 rfl (lv_at hl 2 rfl) ?_
  refine fz_cVi (As := [.int 0]) (rest := []) S0 (m_lastClosed l A D k q f pa v g_f_1_9 g_f_1_13 g_f_1_0 g_f_1_7 g_f_1_12) (fz_cwV (C := RX10) 1 hts fm_513 fm_514 fm_515 fm_516 fm_469 rfl rfl ⟨by decide, by decide, by decide +kernel⟩ ⟨Nat.le_of_ble_eq_true rfl, Nat.le_of_ble_eq_true rfl⟩) (va_recv hK hP (ci := 14) (q0 := 0) rfl rfl) (fun _ h9 => h9) (fun a9 h9 => hA a9 (Nat.le_trans hS.1 h9)) hG hS hP hK hD rfl hl.1 rfl (Nat.le_of_ble_eq_true rfl) dX10_openSet_4 ⟨Nat.le_of_ble_eq_true rfl, Nat.le_of_ble_eq_true rfl⟩ (fun r_1 u_1 H locs hw hz1 hk1 hP hS => ?_)
  have hP : va_P D vwCl (fz_WM k q f pa (va_up (va_up v 7 0) 8 (-1))) H := hP
  have hD : va_D A (fz_WM k q f pa (va_up (va_up v 7 0) 8 (-1))) := fz_Dsame hD rfl
  obtain rfl : r_1 = (-1) := hw
  refine lv_iload_n hx hb dX10_openSet_7 rfl (lv_at hl 3 rfl) ?_
  refine lv_icmp_lt (tgt := 15) hx hb dX10_openSet_8 (by decide) (fun c_2 => ?_) (fun c_2 => ?_)
  · skip
    refine lv_iconst (v := 0) hx hb dX10_openSet_15 (by decide) ?_
    refine lv_istore (lv' := [(4, .int 0), (3, .int 0), (0, .ref (q 0)), (1, .int 0), (2, .int p0)]) hx hb dX10_openSet_16 hl (by decide) rfl (fun ls hl => ?_)
    refine lv_iconst (v := 0) hx hb dX10_openSet_18 (by decide) ?_
    refine lv_istore (lv' := [(5, .int 0), (4, .int 0), (3, .int 0), (0, .ref (q 0)), (1, .int 0), (2, .int p0)]) hx hb dX10_openSet_19 hl (by decide) rfl (fun ls hl => ?_)
    refine lv_iload hx hb dX10_openSet_21 (lv_at hl 0 rfl) ?_
    refine lv_aload_n hx hb dX10_openSet_23 rfl (lv_at hl 3 rfl) ?_
    refine lv_iload_n hx hb dX10_openSet_24 rfl (lv_at hl 4 rfl) ?_
    refine lv_iconst (v := 3) hx hb dX10_openSet_25 (by decide) ?_
    refine fz_cVi (As := [.int 0, .int 3]) (rest := [.int 0]) S0 (m_of3 l A D k q f pa (va_up (va_up v 7 0) 8 (-1)) g_f_1_10) (fz_cwV (C := RX10) 2 hts fm_477 fm_478 fm_479 fm_480 fm_469 rfl rfl ⟨by decide, by decide, by decide +kernel⟩ ⟨Nat.le_of_ble_eq_true rfl, Nat.le_of_ble_eq_true rfl⟩) (va_recv hK hP (ci := 14) (q0 := 0) rfl rfl) (fun _ h9 => h9) (fun a9 h9 => hA a9 (Nat.le_trans hS.1 h9)) hG hS hP hK hD rfl hl.1 rfl (Nat.le_of_ble_eq_true rfl) dX10_openSet_26 ⟨Nat.le_of_ble_eq_true rfl, Nat.le_of_ble_eq_true rfl⟩ (fun r_3 u_3 H locs hw hz1 hk1 hP hS => ?_)
    have hP : va_P D vwCl (fz_WM k q f pa (va_up (va_up v 7 0) 8 (-1))) H := hP
    obtain rfl : r_3 = 0 := hw
    refine lv_icmp_ge (tgt := 65) hx hb dX10_openSet_29 (by decide) (fun c_4 => ?_) (fun c_4 => absurd (by decide) c_4)
    refine lv_iload_n hx hb dX10_openSet_65 rfl (lv_at hl 2 rfl) ?_
    exact fz_iret hx hb hr rfl hlocks hS dX10_openSet_66 () rfl hP (Nat.le_of_ble_eq_true rfl) (Nat.le_of_ble_eq_true rfl)
  · skip
    refine lv_iconst (v := 1) hx hb dX10_openSet_11 (by decide) ?_
    refine lv_goto (tgt := 16) hx hb dX10_openSet_12 (by decide) ?_
    refine lv_istore (lv' := [(4, .int 1), (3, .int 0), (0, .ref (q 0)), (1, .int 0), (2, .int p0)]) hx hb dX10_openSet_16 hl (by decide) rfl (fun ls hl => ?_)
    refine lv_iconst (v := 0) hx hb dX10_openSet_18 (by decide) ?_
    refine lv_istore (lv' := [(5, .int 0), (4, .int 1), (3, .int 0), (0, .ref (q 0)), (1, .int 0), (2, .int p0)]) hx hb dX10_openSet_19 hl (by decide) rfl (fun ls hl => ?_)
    refine lv_iload hx hb dX10_openSet_21 (lv_at hl 0 rfl) ?_
    refine lv_aload_n hx hb dX10_openSet_23 rfl (lv_at hl 3 rfl) ?_
    refine lv_iload_n hx hb dX10_openSet_24 rfl (lv_at hl 4 rfl) ?_
    refine lv_iconst (v := 3) hx hb dX10_openSet_25 (by decide) ?_
    refine fz_cVi (As := [.int 0, .int 3]) (rest := [.int 0]) S0 (m_of3 l A D k q f pa (va_up (va_up v 7 0) 8 (-1)) g_f_1_10) (fz_cwV (C := RX10) 2 hts fm_477 fm_478 fm_479 fm_480 fm_469 rfl rfl ⟨by decide, by decide, by decide +kernel⟩ ⟨Nat.le_of_ble_eq_true rfl, Nat.le_of_ble_eq_true rfl⟩) (va_recv hK hP (ci := 14) (q0 := 0) rfl rfl) (fun _ h9 => h9) (fun a9 h9 => hA a9 (Nat.le_trans hS.1 h9)) hG hS hP hK hD rfl hl.1 rfl (Nat.le_of_ble_eq_true rfl) dX10_openSet_26 ⟨Nat.le_of_ble_eq_true rfl, Nat.le_of_ble_eq_true rfl⟩ (fun r_5 u_5 H locs hw hz1 hk1 hP hS => ?_)
    have hP : va_P D vwCl (fz_WM k q f pa (va_up (va_up v 7 0) 8 (-1))) H := hP
    obtain rfl : r_5 = 0 := hw
    refine lv_icmp_ge (tgt := 65) hx hb dX10_openSet_29 (by decide) (fun c_6 => ?_) (fun c_6 => absurd (by decide) c_6)
    refine lv_iload_n hx hb dX10_openSet_65 rfl (lv_at hl 2 rfl) ?_
    exact fz_iret hx hb hr rfl hlocks hS dX10_openSet_66 () rfl hP (Nat.le_of_ble_eq_true rfl) (Nat.le_of_ble_eq_true rfl)

set_option maxHeartbeats 4000000 in
set_option maxRecDepth 100000 in
theorem m_allPages (l : Launch) (A : Nat → Prop) (D : va_G) (k : Nat → ClassId) (q : Nat → Nat) (f : Nat → Nat → Int32) (pa : Nat → Option Nat) (v : Nat → Int32) (g_f_1_10 : f 1 10 = 0)  :
    Met l yX10_allPages (fz_ws yX10_allPages cX10_allPages 2 (some .int)) { frames := 12, cells := 0, slots := 0, locals := 160 } (va_Pc [.ref (q 0), .int 0] (fz_PC A D (fz_tys k) (fz_WM k q f pa v))) (fz_QI D A (fun (_ : Unit) => fz_WM k q f pa v) (fun (r : Int32) (_ : Unit) => r = 0)) 0 0 A := by
  refine fz_of (by decide +kernel) (Nat.le_of_ble_eq_true rfl) ?_
  intro p e s m below meth c hx hb hr hml hown hlocks hts hin hA hP hK hD hG hS ls hl
  have hown : s.vm.findClass RX10 = some m.cls := hown
  have S0 : CallFix p m c cX10_allPages 2 s [.ref (q 0), .int 0].toArray (fz_ws yX10_allPages cX10_allPages 2 (some .int)) RX10 := ⟨hx, hb, hml, hown, hts⟩
  have hl : lv_has ls 2 [(0, .ref (q 0)), (1, .int 0)] := hl
  refine lv_iconst (v := 1) hx hb dX10_allPages_0 (by decide) ?_
  refine lv_aload_n hx hb dX10_allPages_1 rfl (lv_at hl 0 rfl) ?_
  refine lv_iload_n hx hb dX10_allPages_2 rfl (lv_at hl 1 rfl) ?_
  refine lv_iconst (v := 3) hx hb dX10_allPages_3 (by decide) ?_
  refine fz_cVi (As := [.int 0, .int 3]) (rest := [.int 1]) S0 (m_of3 l A D k q f pa v g_f_1_10) (fz_cwV (C := RX10) 2 hts fm_477 fm_478 fm_479 fm_480 fm_469 rfl rfl ⟨by decide, by decide, by decide +kernel⟩ ⟨Nat.le_of_ble_eq_true rfl, Nat.le_of_ble_eq_true rfl⟩) (va_recv hK hP (ci := 14) (q0 := 0) rfl rfl) (fun _ h9 => h9) (fun a9 h9 => hA a9 (Nat.le_trans hS.1 h9)) hG hS hP hK hD rfl hl.1 rfl (Nat.le_of_ble_eq_true rfl) dX10_allPages_4 ⟨Nat.le_of_ble_eq_true rfl, Nat.le_of_ble_eq_true rfl⟩ (fun r_1 u_1 H locs hw hz1 hk1 hP hS => ?_)
  have hP : va_P D vwCl (fz_WM k q f pa v) H := hP
  obtain rfl : r_1 = 0 := hw
  refine lv_ishl hx hb dX10_allPages_7 ?_
  refine fz_I (y := 1) (by decide) ?_
  refine lv_iconst (v := 1) hx hb dX10_allPages_8 (by decide) ?_
  refine lv_isub hx hb dX10_allPages_9 ?_
  refine fz_I (y := 0) (by decide) ?_
  exact fz_iret hx hb hr rfl hlocks hS dX10_allPages_10 () rfl hP (Nat.le_of_ble_eq_true rfl) (Nat.le_of_ble_eq_true rfl)

set_option maxHeartbeats 4000000 in
set_option maxRecDepth 100000 in
theorem m_isContainer (l : Launch) (A : Nat → Prop) (D : va_G) (k : Nat → ClassId) (q : Nat → Nat) (f : Nat → Nat → Int32) (pa : Nat → Option Nat) (v : Nat → Int32) (p0 : Int32) (g_f_1_2 : f 1 2 = 0)  :
    Met l yX10_isContainer (fz_ws yX10_isContainer cX10_isContainer 2 (some .boolean)) { frames := 12, cells := 0, slots := 0, locals := 160 } (va_Pc [.ref (q 0), .int p0] (fz_PC A D (fz_tys k) (fz_WM k q f pa v))) (fz_QI D A (fun (_ : Unit) => fz_WM k q f pa v) (fun (r : Int32) (_ : Unit) => r = 0)) 0 0 A := by
  refine fz_of (by decide +kernel) (Nat.le_of_ble_eq_true rfl) ?_
  intro p e s m below meth c hx hb hr hml hown hlocks hts hin hA hP hK hD hG hS ls hl
  have hown : s.vm.findClass RX10 = some m.cls := hown
  have S0 : CallFix p m c cX10_isContainer 2 s [.ref (q 0), .int p0].toArray (fz_ws yX10_isContainer cX10_isContainer 2 (some .boolean)) RX10 := ⟨hx, hb, hml, hown, hts⟩
  have hl : lv_has ls 2 [(0, .ref (q 0)), (1, .int p0)] := hl
  refine lv_iload_n hx hb dX10_isContainer_0 rfl (lv_at hl 1 rfl) ?_
  refine lv_iconst (v := 0) hx hb dX10_isContainer_1 (by decide) ?_
  refine lv_aload_n hx hb dX10_isContainer_2 rfl (lv_at hl 0 rfl) ?_
  refine va_get (D := D) (ci := 14) (v := .ref (q 1)) (C := RX10) (T := TX10) (N := 22) hx hb hts (fun w9 h9 => fz_m (fin_X10 w9 h9)) hown hK hP 0 rfl rfl 1 (by decide) (hts _ (fz_m fm_462)) (fun _ h9 => h9) rfl dX10_isContainer_3 ?_
  refine lv_iconst (v := 2) hx hb dX10_isContainer_6 (by decide) ?_
  refine va_iald hx hb hK hP 1 0 rfl rfl (fz_vin (by decide)) dX10_isContainer_7 ?_
  refine fz_I (y := 0) g_f_1_2 ?_
  refine lv_iconst (v := 1) hx hb dX10_isContainer_8 (by decide) ?_
  refine lv_isub hx hb dX10_isContainer_9 ?_
  refine fz_I (y := (-1)) (by decide) ?_
  refine fz_cSi (As := [.int p0, .int 0, .int (-1)]) (rest := []) S0 (m_isBetween l A D k q f pa v p0 0 (-1)) (fz_cwS 3 hts fm_474 fm_475 fm_476 fm_469 rfl rfl ⟨by decide, by decide, by decide +kernel⟩ ⟨Nat.le_of_ble_eq_true rfl, Nat.le_of_ble_eq_true rfl⟩) (fun _ h9 => h9) (fun a9 h9 => hA a9 (Nat.le_trans hS.1 h9)) hG hS hP hK hD rfl hl.1 rfl (Nat.le_of_ble_eq_true rfl) dX10_isContainer_10 ⟨Nat.le_of_ble_eq_true rfl, Nat.le_of_ble_eq_true rfl⟩ (fun r_1 u_1 H locs hw hz1 hk1 hP hS => ?_)
  have hP : va_P D vwCl (fz_WM k q f pa v) H := hP
  rcases (show (r_1 = 1 ∧ (0 ≤ p0 ∧ p0 ≤ (-1))) ∨ (r_1 = 0 ∧ ¬ ((0 ≤ p0 ∧ p0 ≤ (-1)))) from hw) with ⟨rfl, hq_1⟩ | ⟨rfl, hq_1⟩
  · skip
    exact (fq_113 p0 hq_1).elim
  · skip
    refine lv_if_eq (tgt := 30) hx hb dX10_isContainer_13 (by decide) (fun c_2 => ?_) (fun c_2 => absurd (by decide) c_2)
    refine lv_iconst (v := 0) hx hb dX10_isContainer_30 (by decide) ?_
    exact fz_iret hx hb hr rfl hlocks hS dX10_isContainer_31 () rfl hP (Nat.le_of_ble_eq_true rfl) (Nat.le_of_ble_eq_true rfl)

set_option maxHeartbeats 4000000 in
set_option maxRecDepth 100000 in
theorem m_countContainers (l : Launch) (A : Nat → Prop) (D : va_G) (k : Nat → ClassId) (q : Nat → Nat) (f : Nat → Nat → Int32) (pa : Nat → Option Nat) (v : Nat → Int32) (g_f_1_2 : f 1 2 = 0)  :
    Met l yX10_countContainers (fz_ws yX10_countContainers cX10_countContainers 3 (some .int)) { frames := 0, cells := 0, slots := 0, locals := 0 } (va_Pc [.ref (q 0)] (fz_PC A D (fz_tys k) (fz_WM k q f pa v))) (fz_QI D A (fun (_ : Unit) => fz_WM k q f pa v) (fun (r : Int32) (_ : Unit) => r = 0)) 0 0 A := by
  refine fz_of (by decide +kernel) (Nat.le_of_ble_eq_true rfl) ?_
  intro p e s m below meth c hx hb hr hml hown hlocks hts hin hA hP hK hD hG hS ls hl
  have hown : s.vm.findClass RX10 = some m.cls := hown
  have S0 : CallFix p m c cX10_countContainers 3 s [.ref (q 0)].toArray (fz_ws yX10_countContainers cX10_countContainers 3 (some .int)) RX10 := ⟨hx, hb, hml, hown, hts⟩
  have hl : lv_has ls 3 [(0, .ref (q 0))] := hl
  refine lv_iconst (v := 0) hx hb dX10_countContainers_0 (by decide) ?_
  refine lv_istore_n (lv' := [(1, .int 0), (0, .ref (q 0))]) hx hb dX10_countContainers_1 rfl hl (by decide) rfl (fun ls hl => ?_)
  refine lv_iconst (v := 0) hx hb dX10_countContainers_2 (by decide) ?_
  refine lv_istore_n (lv' := [(2, .int 0), (1, .int 0), (0, .ref (q 0))]) hx hb dX10_countContainers_3 rfl hl (by decide) rfl (fun ls hl => ?_)
  refine lv_iload_n hx hb dX10_countContainers_4 rfl (lv_at hl 0 rfl) ?_
  refine lv_aload_n hx hb dX10_countContainers_5 rfl (lv_at hl 2 rfl) ?_
  refine va_get (D := D) (ci := 14) (v := .ref (q 1)) (C := RX10) (T := TX10) (N := 22) hx hb hts (fun w9 h9 => fz_m (fin_X10 w9 h9)) hown hK hP 0 rfl rfl 1 (by decide) (hts _ (fz_m fm_462)) (fun _ h9 => h9) rfl dX10_countContainers_6 ?_
  refine lv_iconst (v := 2) hx hb dX10_countContainers_9 (by decide) ?_
  refine va_iald hx hb hK hP 1 0 rfl rfl (fz_vin (by decide)) dX10_countContainers_10 ?_
  refine fz_I (y := 0) g_f_1_2 ?_
  refine lv_icmp_ge (tgt := 29) hx hb dX10_countContainers_11 (by decide) (fun c_1 => ?_) (fun c_1 => absurd (by decide) c_1)
  refine lv_iload_n hx hb dX10_countContainers_29 rfl (lv_at hl 1 rfl) ?_
  exact fz_iret hx hb hr rfl hlocks hS dX10_countContainers_30 () rfl hP (Nat.le_of_ble_eq_true rfl) (Nat.le_of_ble_eq_true rfl)

set_option maxHeartbeats 4000000 in
set_option maxRecDepth 100000 in
theorem m_isFull (l : Launch) (A : Nat → Prop) (D : va_G) (k : Nat → ClassId) (q : Nat → Nat) (f : Nat → Nat → Int32) (pa : Nat → Option Nat) (v : Nat → Int32) (g_f_1_2 : f 1 2 = 0)  :
    Met l yX10_isFull (fz_ws yX10_isFull cX10_isFull 1 (some .boolean)) { frames := 12, cells := 0, slots := 0, locals := 160 } (va_Pc [.ref (q 0)] (fz_PC A D (fz_tys k) (fz_WM k q f pa v))) (fz_QI D A (fun (_ : Unit) => fz_WM k q f pa v) (fun (r : Int32) (_ : Unit) => r = 0)) 0 0 A := by
  refine fz_of (by decide +kernel) (Nat.le_of_ble_eq_true rfl) ?_
  intro p e s m below meth c hx hb hr hml hown hlocks hts hin hA hP hK hD hG hS ls hl
  have hown : s.vm.findClass RX10 = some m.cls := hown
  have S0 : CallFix p m c cX10_isFull 1 s [.ref (q 0)].toArray (fz_ws yX10_isFull cX10_isFull 1 (some .boolean)) RX10 := ⟨hx, hb, hml, hown, hts⟩
  have hl : lv_has ls 1 [(0, .ref (q 0))] := hl
  refine lv_aload_n hx hb dX10_isFull_0 rfl (lv_at hl 0 rfl) ?_
  refine fz_cVi (As := []) (rest := []) S0 (m_countContainers l A D k q f pa v g_f_1_2) (fz_cwV (C := RX10) 0 hts fm_517 fm_518 fm_519 fm_520 fm_469 rfl rfl ⟨by decide, by decide, by decide +kernel⟩ ⟨Nat.le_of_ble_eq_true rfl, Nat.le_of_ble_eq_true rfl⟩) (va_recv hK hP (ci := 14) (q0 := 0) rfl rfl) (fun _ h9 => h9) (fun a9 h9 => hA a9 (Nat.le_trans hS.1 h9)) hG hS hP hK hD rfl hl.1 rfl (Nat.le_of_ble_eq_true rfl) dX10_isFull_1 ⟨Nat.le_of_ble_eq_true rfl, Nat.le_of_ble_eq_true rfl⟩ (fun r_1 u_1 H locs hw hz1 hk1 hP hS => ?_)
  have hP : va_P D vwCl (fz_WM k q f pa v) H := hP
  obtain rfl : r_1 = 0 := hw
  refine lv_bipush (v := 10) hx hb dX10_isFull_4 (by decide) ?_
  refine lv_icmp_eq (tgt := 20) hx hb dX10_isFull_6 (by decide) (fun c_2 => absurd c_2 (by decide)) (fun c_2 => ?_)
  refine lv_aload_n hx hb dX10_isFull_9 rfl (lv_at hl 0 rfl) ?_
  refine va_get (D := D) (ci := 14) (v := .ref (q 1)) (C := RX10) (T := TX10) (N := 22) hx hb hts (fun w9 h9 => fz_m (fin_X10 w9 h9)) hown hK hP 0 rfl rfl 1 (by decide) (hts _ (fz_m fm_462)) (fun _ h9 => h9) rfl dX10_isFull_10 ?_
  refine lv_iconst (v := 2) hx hb dX10_isFull_13 (by decide) ?_
  refine va_iald hx hb hK hP 1 0 rfl rfl (fz_vin (by decide)) dX10_isFull_14 ?_
  refine fz_I (y := 0) g_f_1_2 ?_
  refine lv_bipush (v := 30) hx hb dX10_isFull_15 (by decide) ?_
  refine lv_icmp_ne (tgt := 24) hx hb dX10_isFull_17 (by decide) (fun c_3 => ?_) (fun c_3 => absurd c_3 (by decide))
  refine lv_iconst (v := 0) hx hb dX10_isFull_24 (by decide) ?_
  exact fz_iret hx hb hr rfl hlocks hS dX10_isFull_25 () rfl hP (Nat.le_of_ble_eq_true rfl) (Nat.le_of_ble_eq_true rfl)

set_option maxHeartbeats 4000000 in
set_option maxRecDepth 100000 in
theorem m_isCapacity (l : Launch) (A : Nat → Prop) (D : va_G) (k : Nat → ClassId) (q : Nat → Nat) (f : Nat → Nat → Int32) (pa : Nat → Option Nat) (v : Nat → Int32) (p0 : Int32)   :
    Met l yX10_isCapacity (fz_ws yX10_isCapacity cX10_isCapacity 1 (some .boolean)) { frames := 12, cells := 0, slots := 0, locals := 160 } (va_Pc [.int p0] (fz_PC A D (fz_tys k) (fz_WM k q f pa v))) (fz_QI D A (fun (_ : Unit) => fz_WM k q f pa v) (fun (r : Int32) (_ : Unit) => (r = 1 ∧ (1 ≤ p0 ∧ p0 ≤ 200)) ∨ (r = 0 ∧ ¬ ((1 ≤ p0 ∧ p0 ≤ 200))))) 0 0 A := by
  refine fz_of (by decide +kernel) (Nat.le_of_ble_eq_true rfl) ?_
  intro p e s m below meth c hx hb hr hml hown hlocks hts hin hA hP hK hD hG hS ls hl
  have hown : s.vm.findClass RX10 = some m.cls := hown
  have S0 : CallFix p m c cX10_isCapacity 1 s [.int p0].toArray (fz_ws yX10_isCapacity cX10_isCapacity 1 (some .boolean)) RX10 := ⟨hx, hb, hml, hown, hts⟩
  have hl : lv_has ls 1 [(0, .int p0)] := hl
  refine lv_iload_n hx hb dX10_isCapacity_0 rfl (lv_at hl 0 rfl) ?_
  refine lv_iconst (v := 1) hx hb dX10_isCapacity_1 (by decide) ?_
  refine lv_sipush (v := 200) hx hb dX10_isCapacity_2 (by decide) ?_
  refine fz_cSi (As := [.int p0, .int 1, .int 200]) (rest := []) S0 (m_isBetween l A D k q f pa v p0 1 200) (fz_cwS 3 hts fm_474 fm_475 fm_476 fm_469 rfl rfl ⟨by decide, by decide, by decide +kernel⟩ ⟨Nat.le_of_ble_eq_true rfl, Nat.le_of_ble_eq_true rfl⟩) (fun _ h9 => h9) (fun a9 h9 => hA a9 (Nat.le_trans hS.1 h9)) hG hS hP hK hD rfl hl.1 rfl (Nat.le_of_ble_eq_true rfl) dX10_isCapacity_5 ⟨Nat.le_of_ble_eq_true rfl, Nat.le_of_ble_eq_true rfl⟩ (fun r_1 u_1 H locs hw hz1 hk1 hP hS => ?_)
  have hP : va_P D vwCl (fz_WM k q f pa v) H := hP
  rcases (show (r_1 = 1 ∧ (1 ≤ p0 ∧ p0 ≤ 200)) ∨ (r_1 = 0 ∧ ¬ ((1 ≤ p0 ∧ p0 ≤ 200))) from hw) with ⟨rfl, hq_1⟩ | ⟨rfl, hq_1⟩
  · skip
    exact fz_iret hx hb hr rfl hlocks hS dX10_isCapacity_8 () (Or.inl ⟨rfl, (fq_94 p0 hq_1)⟩) hP (Nat.le_of_ble_eq_true rfl) (Nat.le_of_ble_eq_true rfl)
  · skip
    exact fz_iret hx hb hr rfl hlocks hS dX10_isCapacity_8 () (Or.inr ⟨rfl, (fq_93 p0 hq_1)⟩) hP (Nat.le_of_ble_eq_true rfl) (Nat.le_of_ble_eq_true rfl)

set_option maxHeartbeats 4000000 in
set_option maxRecDepth 100000 in
theorem m_setIn0 (l : Launch) (A : Nat → Prop) (D : va_G) (k : Nat → ClassId) (q : Nat → Nat) (f : Nat → Nat → Int32) (pa : Nat → Option Nat) (v : Nat → Int32) (p2 : Int32)   :
    Met l yX10_setIn (fz_ws yX10_setIn cX10_setIn 4 none) { frames := 0, cells := 0, slots := 0, locals := 0 } (va_Pc [.ref (q 0), .int 0, .int 0, .int p2] (fz_PC A D (fz_tys k) (fz_WM k q f pa v))) (fz_QV D A (fun (_ : Unit) => fz_WM k q (va_up f 1 (upd (f 1) 1247 p2)) pa v) (fun (_ : Unit) => True)) 0 0 A := by
  refine fz_of (by decide +kernel) (Nat.le_of_ble_eq_true rfl) ?_
  intro p e s m below meth c hx hb hr hml hown hlocks hts hin hA hP hK hD hG hS ls hl
  have hown : s.vm.findClass RX10 = some m.cls := hown
  have S0 : CallFix p m c cX10_setIn 4 s [.ref (q 0), .int 0, .int 0, .int p2].toArray (fz_ws yX10_setIn cX10_setIn 4 none) RX10 := ⟨hx, hb, hml, hown, hts⟩
  have hl : lv_has ls 4 [(0, .ref (q 0)), (1, .int 0), (2, .int 0), (3, .int p2)] := hl
  refine lv_aload_n hx hb dX10_setIn_0 rfl (lv_at hl 0 rfl) ?_
  refine va_get (D := D) (ci := 14) (v := .ref (q 1)) (C := RX10) (T := TX10) (N := 22) hx hb hts (fun w9 h9 => fz_m (fin_X10 w9 h9)) hown hK hP 0 rfl rfl 1 (by decide) (hts _ (fz_m fm_462)) (fun _ h9 => h9) rfl dX10_setIn_1 ?_
  refine lv_sipush (v := 1247) hx hb dX10_setIn_4 (by decide) ?_
  refine lv_iload_n hx hb dX10_setIn_7 rfl (lv_at hl 1 rfl) ?_
  refine lv_bipush (v := 44) hx hb dX10_setIn_8 (by decide) ?_
  refine lv_imul hx hb dX10_setIn_10 ?_
  refine fz_I (y := 0) (by decide) ?_
  refine lv_iadd hx hb dX10_setIn_11 ?_
  refine fz_I (y := 1247) (by decide) ?_
  refine lv_iload_n hx hb dX10_setIn_12 rfl (lv_at hl 2 rfl) ?_
  refine lv_iadd hx hb dX10_setIn_13 ?_
  refine fz_I (y := 1247) (by decide) ?_
  refine lv_iload_n hx hb dX10_setIn_14 rfl (lv_at hl 3 rfl) ?_
  refine va_iast hx hb hK hP hD hS 1 0 rfl rfl (fz_vin (by decide)) dX10_setIn_15 (fun H locs hP hD hS => ?_)
  have hP : va_P D vwCl (fz_WM k q (va_up f 1 (upd (f 1) 1247 p2)) pa v) H := hP
  have hD : va_D A (fz_WM k q (va_up f 1 (upd (f 1) 1247 p2)) pa v) := hD
  exact fz_vret hx hb hr hlocks hS dX10_setIn_16 () trivial hP (Nat.le_of_ble_eq_true rfl) (Nat.le_of_ble_eq_true rfl)

set_option maxHeartbeats 4000000 in
set_option maxRecDepth 100000 in
theorem m_setIn1 (l : Launch) (A : Nat → Prop) (D : va_G) (k : Nat → ClassId) (q : Nat → Nat) (f : Nat → Nat → Int32) (pa : Nat → Option Nat) (v : Nat → Int32) (p2 : Int32)   :
    Met l yX10_setIn (fz_ws yX10_setIn cX10_setIn 4 none) { frames := 0, cells := 0, slots := 0, locals := 0 } (va_Pc [.ref (q 0), .int 0, .int 1, .int p2] (fz_PC A D (fz_tys k) (fz_WM k q f pa v))) (fz_QV D A (fun (_ : Unit) => fz_WM k q (va_up f 1 (upd (f 1) 1248 p2)) pa v) (fun (_ : Unit) => True)) 0 0 A := by
  refine fz_of (by decide +kernel) (Nat.le_of_ble_eq_true rfl) ?_
  intro p e s m below meth c hx hb hr hml hown hlocks hts hin hA hP hK hD hG hS ls hl
  have hown : s.vm.findClass RX10 = some m.cls := hown
  have S0 : CallFix p m c cX10_setIn 4 s [.ref (q 0), .int 0, .int 1, .int p2].toArray (fz_ws yX10_setIn cX10_setIn 4 none) RX10 := ⟨hx, hb, hml, hown, hts⟩
  have hl : lv_has ls 4 [(0, .ref (q 0)), (1, .int 0), (2, .int 1), (3, .int p2)] := hl
  refine lv_aload_n hx hb dX10_setIn_0 rfl (lv_at hl 0 rfl) ?_
  refine va_get (D := D) (ci := 14) (v := .ref (q 1)) (C := RX10) (T := TX10) (N := 22) hx hb hts (fun w9 h9 => fz_m (fin_X10 w9 h9)) hown hK hP 0 rfl rfl 1 (by decide) (hts _ (fz_m fm_462)) (fun _ h9 => h9) rfl dX10_setIn_1 ?_
  refine lv_sipush (v := 1247) hx hb dX10_setIn_4 (by decide) ?_
  refine lv_iload_n hx hb dX10_setIn_7 rfl (lv_at hl 1 rfl) ?_
  refine lv_bipush (v := 44) hx hb dX10_setIn_8 (by decide) ?_
  refine lv_imul hx hb dX10_setIn_10 ?_
  refine fz_I (y := 0) (by decide) ?_
  refine lv_iadd hx hb dX10_setIn_11 ?_
  refine fz_I (y := 1247) (by decide) ?_
  refine lv_iload_n hx hb dX10_setIn_12 rfl (lv_at hl 2 rfl) ?_
  refine lv_iadd hx hb dX10_setIn_13 ?_
  refine fz_I (y := 1248) (by decide) ?_
  refine lv_iload_n hx hb dX10_setIn_14 rfl (lv_at hl 3 rfl) ?_
  refine va_iast hx hb hK hP hD hS 1 0 rfl rfl (fz_vin (by decide)) dX10_setIn_15 (fun H locs hP hD hS => ?_)
  have hP : va_P D vwCl (fz_WM k q (va_up f 1 (upd (f 1) 1248 p2)) pa v) H := hP
  have hD : va_D A (fz_WM k q (va_up f 1 (upd (f 1) 1248 p2)) pa v) := hD
  exact fz_vret hx hb hr hlocks hS dX10_setIn_16 () trivial hP (Nat.le_of_ble_eq_true rfl) (Nat.le_of_ble_eq_true rfl)

set_option maxHeartbeats 4000000 in
set_option maxRecDepth 100000 in
theorem m_makeContainer (l : Launch) (A : Nat → Prop) (D : va_G) (k : Nat → ClassId) (q : Nat → Nat) (f : Nat → Nat → Int32) (pa : Nat → Option Nat) (v : Nat → Int32) (p0 : Int32) (g_f_1_2 : f 1 2 = 0)  :
    Met l yX10_makeContainer (fz_ws yX10_makeContainer cX10_makeContainer 3 (some .int)) { frames := 12, cells := 0, slots := 0, locals := 160 } (va_Pc [.ref (q 0), .int p0] (fz_PC A D (fz_tys k) (fz_WM k q f pa v))) (fz_QI D A (fun (_ : Unit) => fz_WM k q (va_up f 1 (upd (upd (upd (f 1) 1247 1) 1248 p0) 2 1)) pa v) (fun (r : Int32) (_ : Unit) => r = 0)) 0 0 A := by
  refine fz_of (by decide +kernel) (Nat.le_of_ble_eq_true rfl) ?_
  intro p e s m below meth c hx hb hr hml hown hlocks hts hin hA hP hK hD hG hS ls hl
  have hown : s.vm.findClass RX10 = some m.cls := hown
  have S0 : CallFix p m c cX10_makeContainer 3 s [.ref (q 0), .int p0].toArray (fz_ws yX10_makeContainer cX10_makeContainer 3 (some .int)) RX10 := ⟨hx, hb, hml, hown, hts⟩
  have hl : lv_has ls 3 [(0, .ref (q 0)), (1, .int p0)] := hl
  refine lv_aload_n hx hb dX10_makeContainer_0 rfl (lv_at hl 0 rfl) ?_
  refine va_get (D := D) (ci := 14) (v := .ref (q 1)) (C := RX10) (T := TX10) (N := 22) hx hb hts (fun w9 h9 => fz_m (fin_X10 w9 h9)) hown hK hP 0 rfl rfl 1 (by decide) (hts _ (fz_m fm_462)) (fun _ h9 => h9) rfl dX10_makeContainer_1 ?_
  refine lv_iconst (v := 2) hx hb dX10_makeContainer_4 (by decide) ?_
  refine va_iald hx hb hK hP 1 0 rfl rfl (fz_vin (by decide)) dX10_makeContainer_5 ?_
  refine fz_I (y := 0) g_f_1_2 ?_
  refine lv_istore_n (lv' := [(2, .int 0), (0, .ref (q 0)), (1, .int p0)]) hx hb dX10_makeContainer_6 rfl hl (by decide) rfl (fun ls hl => ?_)
  refine lv_aload_n hx hb dX10_makeContainer_7 rfl (lv_at hl 1 rfl) ?_
  refine lv_iload_n hx hb dX10_makeContainer_8 rfl (lv_at hl 0 rfl) ?_
  refine lv_iconst (v := 0) hx hb dX10_makeContainer_9 (by decide) ?_
  refine lv_iconst (v := 1) hx hb dX10_makeContainer_10 (by decide) ?_
  refine fz_cVv (As := [.int 0, .int 0, .int 1]) (rest := []) S0 (m_setIn0 l A D k q f pa v 1) (fz_cwV (C := RX10) 3 hts fm_521 fm_522 fm_523 fm_524 fm_469 rfl rfl ⟨by decide, by decide, by decide +kernel⟩ ⟨Nat.le_of_ble_eq_true rfl, Nat.le_of_ble_eq_true rfl⟩) (va_recv hK hP (ci := 14) (q0 := 0) rfl rfl) (fun _ h9 => h9) (fun a9 h9 => hA a9 (Nat.le_trans hS.1 h9)) hG hS hP hK hD rfl hl.1 rfl (Nat.le_of_ble_eq_true rfl) dX10_makeContainer_11 ⟨Nat.le_of_ble_eq_true rfl, Nat.le_of_ble_eq_true rfl⟩ (fun u_1 H locs hw hz1 hk1 hP hS => ?_)
  have hP : va_P D vwCl (fz_WM k q (va_up f 1 (upd (f 1) 1247 1)) pa v) H := hP
  have hD : va_D A (fz_WM k q (va_up f 1 (upd (f 1) 1247 1)) pa v) := fz_Dsame hD rfl
  refine lv_aload_n hx hb dX10_makeContainer_14 rfl (lv_at hl 1 rfl) ?_
  refine lv_iload_n hx hb dX10_makeContainer_15 rfl (lv_at hl 0 rfl) ?_
  refine lv_iconst (v := 1) hx hb dX10_makeContainer_16 (by decide) ?_
  refine lv_iload_n hx hb dX10_makeContainer_17 rfl (lv_at hl 2 rfl) ?_
  refine fz_cVv (As := [.int 0, .int 1, .int p0]) (rest := []) S0 (m_setIn1 l A D k q (va_up f 1 (upd (f 1) 1247 1)) pa v p0) (fz_cwV (C := RX10) 3 hts fm_521 fm_522 fm_523 fm_524 fm_469 rfl rfl ⟨by decide, by decide, by decide +kernel⟩ ⟨Nat.le_of_ble_eq_true rfl, Nat.le_of_ble_eq_true rfl⟩) (va_recv hK hP (ci := 14) (q0 := 0) rfl rfl) (fun _ h9 => h9) (fun a9 h9 => hA a9 (Nat.le_trans hS.1 h9)) hG hS hP hK hD rfl hl.1 rfl (Nat.le_of_ble_eq_true rfl) dX10_makeContainer_18 ⟨Nat.le_of_ble_eq_true rfl, Nat.le_of_ble_eq_true rfl⟩ (fun u_2 H locs hw hz1 hk1 hP hS => ?_)
  have hP : va_P D vwCl (fz_WM k q (va_up f 1 (upd (upd (f 1) 1247 1) 1248 p0)) pa v) H := hP
  have hD : va_D A (fz_WM k q (va_up f 1 (upd (upd (f 1) 1247 1) 1248 p0)) pa v) := fz_Dsame hD rfl
  refine lv_aload_n hx hb dX10_makeContainer_21 rfl (lv_at hl 1 rfl) ?_
  refine va_get (D := D) (ci := 14) (v := .ref (q 1)) (C := RX10) (T := TX10) (N := 22) hx hb hts (fun w9 h9 => fz_m (fin_X10 w9 h9)) hown hK hP 0 rfl rfl 1 (by decide) (hts _ (fz_m fm_462)) (fun _ h9 => h9) rfl dX10_makeContainer_22 ?_
  refine lv_iconst (v := 2) hx hb dX10_makeContainer_25 (by decide) ?_
  refine lv_dup2_11 hx hb dX10_makeContainer_26 rfl rfl ?_
  refine va_iald hx hb hK hP 1 0 rfl rfl (fz_vin (by decide)) dX10_makeContainer_27 ?_
  refine fz_I (y := 0) g_f_1_2 ?_
  refine lv_iconst (v := 1) hx hb dX10_makeContainer_28 (by decide) ?_
  refine lv_iadd hx hb dX10_makeContainer_29 ?_
  refine fz_I (y := 1) (by decide) ?_
  refine va_iast hx hb hK hP hD hS 1 0 rfl rfl (fz_vin (by decide)) dX10_makeContainer_30 (fun H locs hP hD hS => ?_)
  have hP : va_P D vwCl (fz_WM k q (va_up f 1 (upd (upd (upd (f 1) 1247 1) 1248 p0) 2 1)) pa v) H := hP
  have hD : va_D A (fz_WM k q (va_up f 1 (upd (upd (upd (f 1) 1247 1) 1248 p0) 2 1)) pa v) := hD
  refine lv_iload_n hx hb dX10_makeContainer_31 rfl (lv_at hl 0 rfl) ?_
  exact fz_iret hx hb hr rfl hlocks hS dX10_makeContainer_32 () rfl hP (Nat.le_of_ble_eq_true rfl) (Nat.le_of_ble_eq_true rfl)

set_option maxHeartbeats 4000000 in
set_option maxRecDepth 100000 in
theorem m_countRequests (l : Launch) (A : Nat → Prop) (D : va_G) (k : Nat → ClassId) (q : Nat → Nat) (f : Nat → Nat → Int32) (pa : Nat → Option Nat) (v : Nat → Int32) (p0 p1 : Int32) (g_f_1_4 : f 1 4 = 0)  :
    Met l yX10_countRequests (fz_ws yX10_countRequests cX10_countRequests 5 (some .int)) { frames := 0, cells := 0, slots := 0, locals := 0 } (va_Pc [.ref (q 0), .int p0, .int p1] (fz_PC A D (fz_tys k) (fz_WM k q f pa v))) (fz_QI D A (fun (_ : Unit) => fz_WM k q f pa v) (fun (r : Int32) (_ : Unit) => r = 0)) 0 0 A := by
  refine fz_of (by decide +kernel) (Nat.le_of_ble_eq_true rfl) ?_
  intro p e s m below meth c hx hb hr hml hown hlocks hts hin hA hP hK hD hG hS ls hl
  have hown : s.vm.findClass RX10 = some m.cls := hown
  have S0 : CallFix p m c cX10_countRequests 5 s [.ref (q 0), .int p0, .int p1].toArray (fz_ws yX10_countRequests cX10_countRequests 5 (some .int)) RX10 := ⟨hx, hb, hml, hown, hts⟩
  have hl : lv_has ls 5 [(0, .ref (q 0)), (1, .int p0), (2, .int p1)] := hl
  refine lv_iconst (v := 0) hx hb dX10_countRequests_0 (by decide) ?_
  refine lv_istore_n (lv' := [(3, .int 0), (0, .ref (q 0)), (1, .int p0), (2, .int p1)]) hx hb dX10_countRequests_1 rfl hl (by decide) rfl (fun ls hl => ?_)
  refine lv_iconst (v := 0) hx hb dX10_countRequests_2 (by decide) ?_
  refine lv_istore (lv' := [(4, .int 0), (3, .int 0), (0, .ref (q 0)), (1, .int p0), (2, .int p1)]) hx hb dX10_countRequests_3 hl (by decide) rfl (fun ls hl => ?_)
  refine lv_iload hx hb dX10_countRequests_5 (lv_at hl 0 rfl) ?_
  refine lv_aload_n hx hb dX10_countRequests_7 rfl (lv_at hl 2 rfl) ?_
  refine va_get (D := D) (ci := 14) (v := .ref (q 1)) (C := RX10) (T := TX10) (N := 22) hx hb hts (fun w9 h9 => fz_m (fin_X10 w9 h9)) hown hK hP 0 rfl rfl 1 (by decide) (hts _ (fz_m fm_462)) (fun _ h9 => h9) rfl dX10_countRequests_8 ?_
  refine lv_iconst (v := 4) hx hb dX10_countRequests_11 (by decide) ?_
  refine va_iald hx hb hK hP 1 0 rfl rfl (fz_vin (by decide)) dX10_countRequests_12 ?_
  refine fz_I (y := 0) g_f_1_4 ?_
  refine lv_icmp_ge (tgt := 52) hx hb dX10_countRequests_13 (by decide) (fun c_1 => ?_) (fun c_1 => absurd (by decide) c_1)
  refine lv_iload_n hx hb dX10_countRequests_52 rfl (lv_at hl 1 rfl) ?_
  exact fz_iret hx hb hr rfl hlocks hS dX10_countRequests_53 () rfl hP (Nat.le_of_ble_eq_true rfl) (Nat.le_of_ble_eq_true rfl)

set_option maxHeartbeats 4000000 in
set_option maxRecDepth 100000 in
theorem m_countSeated (l : Launch) (A : Nat → Prop) (D : va_G) (k : Nat → ClassId) (q : Nat → Nat) (f : Nat → Nat → Int32) (pa : Nat → Option Nat) (v : Nat → Int32) (p0 : Int32) (g_f_1_4 : f 1 4 = 0)  :
    Met l yX10_countSeated (fz_ws yX10_countSeated cX10_countSeated 4 (some .int)) { frames := 12, cells := 0, slots := 0, locals := 160 } (va_Pc [.ref (q 0), .int p0] (fz_PC A D (fz_tys k) (fz_WM k q f pa v))) (fz_QI D A (fun (_ : Unit) => fz_WM k q f pa v) (fun (r : Int32) (_ : Unit) => r = 0)) 0 0 A := by
  refine fz_of (by decide +kernel) (Nat.le_of_ble_eq_true rfl) ?_
  intro p e s m below meth c hx hb hr hml hown hlocks hts hin hA hP hK hD hG hS ls hl
  have hown : s.vm.findClass RX10 = some m.cls := hown
  have S0 : CallFix p m c cX10_countSeated 4 s [.ref (q 0), .int p0].toArray (fz_ws yX10_countSeated cX10_countSeated 4 (some .int)) RX10 := ⟨hx, hb, hml, hown, hts⟩
  have hl : lv_has ls 4 [(0, .ref (q 0)), (1, .int p0)] := hl
  refine lv_iconst (v := 0) hx hb dX10_countSeated_0 (by decide) ?_
  refine lv_istore_n (lv' := [(2, .int 0), (0, .ref (q 0)), (1, .int p0)]) hx hb dX10_countSeated_1 rfl hl (by decide) rfl (fun ls hl => ?_)
  refine lv_iconst (v := 0) hx hb dX10_countSeated_2 (by decide) ?_
  refine lv_istore_n (lv' := [(3, .int 0), (2, .int 0), (0, .ref (q 0)), (1, .int p0)]) hx hb dX10_countSeated_3 rfl hl (by decide) rfl (fun ls hl => ?_)
  refine lv_iload_n hx hb dX10_countSeated_4 rfl (lv_at hl 0 rfl) ?_
  refine lv_bipush (v := 8) hx hb dX10_countSeated_5 (by decide) ?_
  refine lv_icmp_ge (tgt := 33) hx hb dX10_countSeated_7 (by decide) (fun c_1 => absurd c_1 (by decide)) (fun c_1 => ?_)
  refine lv_iload_n hx hb dX10_countSeated_10 rfl (lv_at hl 1 rfl) ?_
  refine lv_aload_n hx hb dX10_countSeated_11 rfl (lv_at hl 2 rfl) ?_
  refine lv_iload_n hx hb dX10_countSeated_12 rfl (lv_at hl 0 rfl) ?_
  refine lv_iload_n hx hb dX10_countSeated_13 rfl (lv_at hl 3 rfl) ?_
  refine fz_cVi (As := [.int 0, .int p0]) (rest := [.int 0]) S0 (m_countRequests l A D k q f pa v 0 p0 g_f_1_4) (fz_cwV (C := RX10) 2 hts fm_525 fm_526 fm_527 fm_528 fm_469 rfl rfl ⟨by decide, by decide, by decide +kernel⟩ ⟨Nat.le_of_ble_eq_true rfl, Nat.le_of_ble_eq_true rfl⟩) (va_recv hK hP (ci := 14) (q0 := 0) rfl rfl) (fun _ h9 => h9) (fun a9 h9 => hA a9 (Nat.le_trans hS.1 h9)) hG hS hP hK hD rfl hl.1 rfl (Nat.le_of_ble_eq_true rfl) dX10_countSeated_14 ⟨Nat.le_of_ble_eq_true rfl, Nat.le_of_ble_eq_true rfl⟩ (fun r_2 u_2 H locs hw hz1 hk1 hP hS => ?_)
  have hP : va_P D vwCl (fz_WM k q f pa v) H := hP
  obtain rfl : r_2 = 0 := hw
  refine lv_if_le (tgt := 24) hx hb dX10_countSeated_17 (by decide) (fun c_3 => ?_) (fun c_3 => absurd (by decide) c_3)
  refine lv_iconst (v := 0) hx hb dX10_countSeated_24 (by decide) ?_
  refine lv_iadd hx hb dX10_countSeated_25 ?_
  refine fz_I (y := 0) (by decide) ?_
  refine lv_istore_n (lv' := [(2, .int 0), (3, .int 0), (0, .ref (q 0)), (1, .int p0)]) hx hb dX10_countSeated_26 rfl hl (by decide) rfl (fun ls hl => ?_)
  refine lv_iinc (v := 1) (lv' := [(3, .int 1), (2, .int 0), (0, .ref (q 0)), (1, .int p0)]) hx hb dX10_countSeated_27 hl (k := 1) rfl (by decide) (by decide) rfl (fun ls hl => ?_)
  refine lv_goto (tgt := 4) hx hb dX10_countSeated_30 (by decide) ?_
  refine lv_iload_n hx hb dX10_countSeated_4 rfl (lv_at hl 0 rfl) ?_
  refine lv_bipush (v := 8) hx hb dX10_countSeated_5 (by decide) ?_
  refine lv_icmp_ge (tgt := 33) hx hb dX10_countSeated_7 (by decide) (fun c_4 => absurd c_4 (by decide)) (fun c_4 => ?_)
  refine lv_iload_n hx hb dX10_countSeated_10 rfl (lv_at hl 1 rfl) ?_
  refine lv_aload_n hx hb dX10_countSeated_11 rfl (lv_at hl 2 rfl) ?_
  refine lv_iload_n hx hb dX10_countSeated_12 rfl (lv_at hl 0 rfl) ?_
  refine lv_iload_n hx hb dX10_countSeated_13 rfl (lv_at hl 3 rfl) ?_
  refine fz_cVi (As := [.int 1, .int p0]) (rest := [.int 0]) S0 (m_countRequests l A D k q f pa v 1 p0 g_f_1_4) (fz_cwV (C := RX10) 2 hts fm_525 fm_526 fm_527 fm_528 fm_469 rfl rfl ⟨by decide, by decide, by decide +kernel⟩ ⟨Nat.le_of_ble_eq_true rfl, Nat.le_of_ble_eq_true rfl⟩) (va_recv hK hP (ci := 14) (q0 := 0) rfl rfl) (fun _ h9 => h9) (fun a9 h9 => hA a9 (Nat.le_trans hS.1 h9)) hG hS hP hK hD rfl hl.1 rfl (Nat.le_of_ble_eq_true rfl) dX10_countSeated_14 ⟨Nat.le_of_ble_eq_true rfl, Nat.le_of_ble_eq_true rfl⟩ (fun r_5 u_5 H locs hw hz1 hk1 hP hS => ?_)
  have hP : va_P D vwCl (fz_WM k q f pa v) H := hP
  obtain rfl : r_5 = 0 := hw
  refine lv_if_le (tgt := 24) hx hb dX10_countSeated_17 (by decide) (fun c_6 => ?_) (fun c_6 => absurd (by decide) c_6)
  refine lv_iconst (v := 0) hx hb dX10_countSeated_24 (by decide) ?_
  refine lv_iadd hx hb dX10_countSeated_25 ?_
  refine fz_I (y := 0) (by decide) ?_
  refine lv_istore_n (lv' := [(2, .int 0), (3, .int 1), (0, .ref (q 0)), (1, .int p0)]) hx hb dX10_countSeated_26 rfl hl (by decide) rfl (fun ls hl => ?_)
  refine lv_iinc (v := 2) (lv' := [(3, .int 2), (2, .int 0), (0, .ref (q 0)), (1, .int p0)]) hx hb dX10_countSeated_27 hl (k := 1) rfl (by decide) (by decide) rfl (fun ls hl => ?_)
  refine lv_goto (tgt := 4) hx hb dX10_countSeated_30 (by decide) ?_
  refine lv_iload_n hx hb dX10_countSeated_4 rfl (lv_at hl 0 rfl) ?_
  refine lv_bipush (v := 8) hx hb dX10_countSeated_5 (by decide) ?_
  refine lv_icmp_ge (tgt := 33) hx hb dX10_countSeated_7 (by decide) (fun c_7 => absurd c_7 (by decide)) (fun c_7 => ?_)
  refine lv_iload_n hx hb dX10_countSeated_10 rfl (lv_at hl 1 rfl) ?_
  refine lv_aload_n hx hb dX10_countSeated_11 rfl (lv_at hl 2 rfl) ?_
  refine lv_iload_n hx hb dX10_countSeated_12 rfl (lv_at hl 0 rfl) ?_
  refine lv_iload_n hx hb dX10_countSeated_13 rfl (lv_at hl 3 rfl) ?_
  refine fz_cVi (As := [.int 2, .int p0]) (rest := [.int 0]) S0 (m_countRequests l A D k q f pa v 2 p0 g_f_1_4) (fz_cwV (C := RX10) 2 hts fm_525 fm_526 fm_527 fm_528 fm_469 rfl rfl ⟨by decide, by decide, by decide +kernel⟩ ⟨Nat.le_of_ble_eq_true rfl, Nat.le_of_ble_eq_true rfl⟩) (va_recv hK hP (ci := 14) (q0 := 0) rfl rfl) (fun _ h9 => h9) (fun a9 h9 => hA a9 (Nat.le_trans hS.1 h9)) hG hS hP hK hD rfl hl.1 rfl (Nat.le_of_ble_eq_true rfl) dX10_countSeated_14 ⟨Nat.le_of_ble_eq_true rfl, Nat.le_of_ble_eq_true rfl⟩ (fun r_8 u_8 H locs hw hz1 hk1 hP hS => ?_)
  have hP : va_P D vwCl (fz_WM k q f pa v) H := hP
  obtain rfl : r_8 = 0 := hw
  refine lv_if_le (tgt := 24) hx hb dX10_countSeated_17 (by decide) (fun c_9 => ?_) (fun c_9 => absurd (by decide) c_9)
  refine lv_iconst (v := 0) hx hb dX10_countSeated_24 (by decide) ?_
  refine lv_iadd hx hb dX10_countSeated_25 ?_
  refine fz_I (y := 0) (by decide) ?_
  refine lv_istore_n (lv' := [(2, .int 0), (3, .int 2), (0, .ref (q 0)), (1, .int p0)]) hx hb dX10_countSeated_26 rfl hl (by decide) rfl (fun ls hl => ?_)
  refine lv_iinc (v := 3) (lv' := [(3, .int 3), (2, .int 0), (0, .ref (q 0)), (1, .int p0)]) hx hb dX10_countSeated_27 hl (k := 1) rfl (by decide) (by decide) rfl (fun ls hl => ?_)
  refine lv_goto (tgt := 4) hx hb dX10_countSeated_30 (by decide) ?_
  refine lv_iload_n hx hb dX10_countSeated_4 rfl (lv_at hl 0 rfl) ?_
  refine lv_bipush (v := 8) hx hb dX10_countSeated_5 (by decide) ?_
  refine lv_icmp_ge (tgt := 33) hx hb dX10_countSeated_7 (by decide) (fun c_10 => absurd c_10 (by decide)) (fun c_10 => ?_)
  refine lv_iload_n hx hb dX10_countSeated_10 rfl (lv_at hl 1 rfl) ?_
  refine lv_aload_n hx hb dX10_countSeated_11 rfl (lv_at hl 2 rfl) ?_
  refine lv_iload_n hx hb dX10_countSeated_12 rfl (lv_at hl 0 rfl) ?_
  refine lv_iload_n hx hb dX10_countSeated_13 rfl (lv_at hl 3 rfl) ?_
  refine fz_cVi (As := [.int 3, .int p0]) (rest := [.int 0]) S0 (m_countRequests l A D k q f pa v 3 p0 g_f_1_4) (fz_cwV (C := RX10) 2 hts fm_525 fm_526 fm_527 fm_528 fm_469 rfl rfl ⟨by decide, by decide, by decide +kernel⟩ ⟨Nat.le_of_ble_eq_true rfl, Nat.le_of_ble_eq_true rfl⟩) (va_recv hK hP (ci := 14) (q0 := 0) rfl rfl) (fun _ h9 => h9) (fun a9 h9 => hA a9 (Nat.le_trans hS.1 h9)) hG hS hP hK hD rfl hl.1 rfl (Nat.le_of_ble_eq_true rfl) dX10_countSeated_14 ⟨Nat.le_of_ble_eq_true rfl, Nat.le_of_ble_eq_true rfl⟩ (fun r_11 u_11 H locs hw hz1 hk1 hP hS => ?_)
  have hP : va_P D vwCl (fz_WM k q f pa v) H := hP
  obtain rfl : r_11 = 0 := hw
  refine lv_if_le (tgt := 24) hx hb dX10_countSeated_17 (by decide) (fun c_12 => ?_) (fun c_12 => absurd (by decide) c_12)
  refine lv_iconst (v := 0) hx hb dX10_countSeated_24 (by decide) ?_
  refine lv_iadd hx hb dX10_countSeated_25 ?_
  refine fz_I (y := 0) (by decide) ?_
  refine lv_istore_n (lv' := [(2, .int 0), (3, .int 3), (0, .ref (q 0)), (1, .int p0)]) hx hb dX10_countSeated_26 rfl hl (by decide) rfl (fun ls hl => ?_)
  refine lv_iinc (v := 4) (lv' := [(3, .int 4), (2, .int 0), (0, .ref (q 0)), (1, .int p0)]) hx hb dX10_countSeated_27 hl (k := 1) rfl (by decide) (by decide) rfl (fun ls hl => ?_)
  refine lv_goto (tgt := 4) hx hb dX10_countSeated_30 (by decide) ?_
  refine lv_iload_n hx hb dX10_countSeated_4 rfl (lv_at hl 0 rfl) ?_
  refine lv_bipush (v := 8) hx hb dX10_countSeated_5 (by decide) ?_
  refine lv_icmp_ge (tgt := 33) hx hb dX10_countSeated_7 (by decide) (fun c_13 => absurd c_13 (by decide)) (fun c_13 => ?_)
  refine lv_iload_n hx hb dX10_countSeated_10 rfl (lv_at hl 1 rfl) ?_
  refine lv_aload_n hx hb dX10_countSeated_11 rfl (lv_at hl 2 rfl) ?_
  refine lv_iload_n hx hb dX10_countSeated_12 rfl (lv_at hl 0 rfl) ?_
  refine lv_iload_n hx hb dX10_countSeated_13 rfl (lv_at hl 3 rfl) ?_
  refine fz_cVi (As := [.int 4, .int p0]) (rest := [.int 0]) S0 (m_countRequests l A D k q f pa v 4 p0 g_f_1_4) (fz_cwV (C := RX10) 2 hts fm_525 fm_526 fm_527 fm_528 fm_469 rfl rfl ⟨by decide, by decide, by decide +kernel⟩ ⟨Nat.le_of_ble_eq_true rfl, Nat.le_of_ble_eq_true rfl⟩) (va_recv hK hP (ci := 14) (q0 := 0) rfl rfl) (fun _ h9 => h9) (fun a9 h9 => hA a9 (Nat.le_trans hS.1 h9)) hG hS hP hK hD rfl hl.1 rfl (Nat.le_of_ble_eq_true rfl) dX10_countSeated_14 ⟨Nat.le_of_ble_eq_true rfl, Nat.le_of_ble_eq_true rfl⟩ (fun r_14 u_14 H locs hw hz1 hk1 hP hS => ?_)
  have hP : va_P D vwCl (fz_WM k q f pa v) H := hP
  obtain rfl : r_14 = 0 := hw
  refine lv_if_le (tgt := 24) hx hb dX10_countSeated_17 (by decide) (fun c_15 => ?_) (fun c_15 => absurd (by decide) c_15)
  refine lv_iconst (v := 0) hx hb dX10_countSeated_24 (by decide) ?_
  refine lv_iadd hx hb dX10_countSeated_25 ?_
  refine fz_I (y := 0) (by decide) ?_
  refine lv_istore_n (lv' := [(2, .int 0), (3, .int 4), (0, .ref (q 0)), (1, .int p0)]) hx hb dX10_countSeated_26 rfl hl (by decide) rfl (fun ls hl => ?_)
  refine lv_iinc (v := 5) (lv' := [(3, .int 5), (2, .int 0), (0, .ref (q 0)), (1, .int p0)]) hx hb dX10_countSeated_27 hl (k := 1) rfl (by decide) (by decide) rfl (fun ls hl => ?_)
  refine lv_goto (tgt := 4) hx hb dX10_countSeated_30 (by decide) ?_
  refine lv_iload_n hx hb dX10_countSeated_4 rfl (lv_at hl 0 rfl) ?_
  refine lv_bipush (v := 8) hx hb dX10_countSeated_5 (by decide) ?_
  refine lv_icmp_ge (tgt := 33) hx hb dX10_countSeated_7 (by decide) (fun c_16 => absurd c_16 (by decide)) (fun c_16 => ?_)
  refine lv_iload_n hx hb dX10_countSeated_10 rfl (lv_at hl 1 rfl) ?_
  refine lv_aload_n hx hb dX10_countSeated_11 rfl (lv_at hl 2 rfl) ?_
  refine lv_iload_n hx hb dX10_countSeated_12 rfl (lv_at hl 0 rfl) ?_
  refine lv_iload_n hx hb dX10_countSeated_13 rfl (lv_at hl 3 rfl) ?_
  refine fz_cVi (As := [.int 5, .int p0]) (rest := [.int 0]) S0 (m_countRequests l A D k q f pa v 5 p0 g_f_1_4) (fz_cwV (C := RX10) 2 hts fm_525 fm_526 fm_527 fm_528 fm_469 rfl rfl ⟨by decide, by decide, by decide +kernel⟩ ⟨Nat.le_of_ble_eq_true rfl, Nat.le_of_ble_eq_true rfl⟩) (va_recv hK hP (ci := 14) (q0 := 0) rfl rfl) (fun _ h9 => h9) (fun a9 h9 => hA a9 (Nat.le_trans hS.1 h9)) hG hS hP hK hD rfl hl.1 rfl (Nat.le_of_ble_eq_true rfl) dX10_countSeated_14 ⟨Nat.le_of_ble_eq_true rfl, Nat.le_of_ble_eq_true rfl⟩ (fun r_17 u_17 H locs hw hz1 hk1 hP hS => ?_)
  have hP : va_P D vwCl (fz_WM k q f pa v) H := hP
  obtain rfl : r_17 = 0 := hw
  refine lv_if_le (tgt := 24) hx hb dX10_countSeated_17 (by decide) (fun c_18 => ?_) (fun c_18 => absurd (by decide) c_18)
  refine lv_iconst (v := 0) hx hb dX10_countSeated_24 (by decide) ?_
  refine lv_iadd hx hb dX10_countSeated_25 ?_
  refine fz_I (y := 0) (by decide) ?_
  refine lv_istore_n (lv' := [(2, .int 0), (3, .int 5), (0, .ref (q 0)), (1, .int p0)]) hx hb dX10_countSeated_26 rfl hl (by decide) rfl (fun ls hl => ?_)
  refine lv_iinc (v := 6) (lv' := [(3, .int 6), (2, .int 0), (0, .ref (q 0)), (1, .int p0)]) hx hb dX10_countSeated_27 hl (k := 1) rfl (by decide) (by decide) rfl (fun ls hl => ?_)
  refine lv_goto (tgt := 4) hx hb dX10_countSeated_30 (by decide) ?_
  refine lv_iload_n hx hb dX10_countSeated_4 rfl (lv_at hl 0 rfl) ?_
  refine lv_bipush (v := 8) hx hb dX10_countSeated_5 (by decide) ?_
  refine lv_icmp_ge (tgt := 33) hx hb dX10_countSeated_7 (by decide) (fun c_19 => absurd c_19 (by decide)) (fun c_19 => ?_)
  refine lv_iload_n hx hb dX10_countSeated_10 rfl (lv_at hl 1 rfl) ?_
  refine lv_aload_n hx hb dX10_countSeated_11 rfl (lv_at hl 2 rfl) ?_
  refine lv_iload_n hx hb dX10_countSeated_12 rfl (lv_at hl 0 rfl) ?_
  refine lv_iload_n hx hb dX10_countSeated_13 rfl (lv_at hl 3 rfl) ?_
  refine fz_cVi (As := [.int 6, .int p0]) (rest := [.int 0]) S0 (m_countRequests l A D k q f pa v 6 p0 g_f_1_4) (fz_cwV (C := RX10) 2 hts fm_525 fm_526 fm_527 fm_528 fm_469 rfl rfl ⟨by decide, by decide, by decide +kernel⟩ ⟨Nat.le_of_ble_eq_true rfl, Nat.le_of_ble_eq_true rfl⟩) (va_recv hK hP (ci := 14) (q0 := 0) rfl rfl) (fun _ h9 => h9) (fun a9 h9 => hA a9 (Nat.le_trans hS.1 h9)) hG hS hP hK hD rfl hl.1 rfl (Nat.le_of_ble_eq_true rfl) dX10_countSeated_14 ⟨Nat.le_of_ble_eq_true rfl, Nat.le_of_ble_eq_true rfl⟩ (fun r_20 u_20 H locs hw hz1 hk1 hP hS => ?_)
  have hP : va_P D vwCl (fz_WM k q f pa v) H := hP
  obtain rfl : r_20 = 0 := hw
  refine lv_if_le (tgt := 24) hx hb dX10_countSeated_17 (by decide) (fun c_21 => ?_) (fun c_21 => absurd (by decide) c_21)
  refine lv_iconst (v := 0) hx hb dX10_countSeated_24 (by decide) ?_
  refine lv_iadd hx hb dX10_countSeated_25 ?_
  refine fz_I (y := 0) (by decide) ?_
  refine lv_istore_n (lv' := [(2, .int 0), (3, .int 6), (0, .ref (q 0)), (1, .int p0)]) hx hb dX10_countSeated_26 rfl hl (by decide) rfl (fun ls hl => ?_)
  refine lv_iinc (v := 7) (lv' := [(3, .int 7), (2, .int 0), (0, .ref (q 0)), (1, .int p0)]) hx hb dX10_countSeated_27 hl (k := 1) rfl (by decide) (by decide) rfl (fun ls hl => ?_)
  refine lv_goto (tgt := 4) hx hb dX10_countSeated_30 (by decide) ?_
  refine lv_iload_n hx hb dX10_countSeated_4 rfl (lv_at hl 0 rfl) ?_
  refine lv_bipush (v := 8) hx hb dX10_countSeated_5 (by decide) ?_
  refine lv_icmp_ge (tgt := 33) hx hb dX10_countSeated_7 (by decide) (fun c_22 => absurd c_22 (by decide)) (fun c_22 => ?_)
  refine lv_iload_n hx hb dX10_countSeated_10 rfl (lv_at hl 1 rfl) ?_
  refine lv_aload_n hx hb dX10_countSeated_11 rfl (lv_at hl 2 rfl) ?_
  refine lv_iload_n hx hb dX10_countSeated_12 rfl (lv_at hl 0 rfl) ?_
  refine lv_iload_n hx hb dX10_countSeated_13 rfl (lv_at hl 3 rfl) ?_
  refine fz_cVi (As := [.int 7, .int p0]) (rest := [.int 0]) S0 (m_countRequests l A D k q f pa v 7 p0 g_f_1_4) (fz_cwV (C := RX10) 2 hts fm_525 fm_526 fm_527 fm_528 fm_469 rfl rfl ⟨by decide, by decide, by decide +kernel⟩ ⟨Nat.le_of_ble_eq_true rfl, Nat.le_of_ble_eq_true rfl⟩) (va_recv hK hP (ci := 14) (q0 := 0) rfl rfl) (fun _ h9 => h9) (fun a9 h9 => hA a9 (Nat.le_trans hS.1 h9)) hG hS hP hK hD rfl hl.1 rfl (Nat.le_of_ble_eq_true rfl) dX10_countSeated_14 ⟨Nat.le_of_ble_eq_true rfl, Nat.le_of_ble_eq_true rfl⟩ (fun r_23 u_23 H locs hw hz1 hk1 hP hS => ?_)
  have hP : va_P D vwCl (fz_WM k q f pa v) H := hP
  obtain rfl : r_23 = 0 := hw
  refine lv_if_le (tgt := 24) hx hb dX10_countSeated_17 (by decide) (fun c_24 => ?_) (fun c_24 => absurd (by decide) c_24)
  refine lv_iconst (v := 0) hx hb dX10_countSeated_24 (by decide) ?_
  refine lv_iadd hx hb dX10_countSeated_25 ?_
  refine fz_I (y := 0) (by decide) ?_
  refine lv_istore_n (lv' := [(2, .int 0), (3, .int 7), (0, .ref (q 0)), (1, .int p0)]) hx hb dX10_countSeated_26 rfl hl (by decide) rfl (fun ls hl => ?_)
  refine lv_iinc (v := 8) (lv' := [(3, .int 8), (2, .int 0), (0, .ref (q 0)), (1, .int p0)]) hx hb dX10_countSeated_27 hl (k := 1) rfl (by decide) (by decide) rfl (fun ls hl => ?_)
  refine lv_goto (tgt := 4) hx hb dX10_countSeated_30 (by decide) ?_
  refine lv_iload_n hx hb dX10_countSeated_4 rfl (lv_at hl 0 rfl) ?_
  refine lv_bipush (v := 8) hx hb dX10_countSeated_5 (by decide) ?_
  refine lv_icmp_ge (tgt := 33) hx hb dX10_countSeated_7 (by decide) (fun c_25 => ?_) (fun c_25 => absurd (by decide) c_25)
  refine lv_iload_n hx hb dX10_countSeated_33 rfl (lv_at hl 1 rfl) ?_
  exact fz_iret hx hb hr rfl hlocks hS dX10_countSeated_34 () rfl hP (Nat.le_of_ble_eq_true rfl) (Nat.le_of_ble_eq_true rfl)

set_option maxHeartbeats 4000000 in
set_option maxRecDepth 100000 in
theorem m_countUnits0 (l : Launch) (A : Nat → Prop) (D : va_G) (k : Nat → ClassId) (q : Nat → Nat) (f : Nat → Nat → Int32) (pa : Nat → Option Nat) (v : Nat → Int32) (g_f_1_0 : f 1 0 = 1) (g_f_1_7 : f 1 7 = 1) (g_f_1_10 : f 1 10 = 0)  :
    Met l yX10_countUnits (fz_ws yX10_countUnits cX10_countUnits 4 (some .int)) { frames := 36, cells := 0, slots := 0, locals := 480 } (va_Pc [.ref (q 0), .int 0] (fz_PC A D (fz_tys k) (fz_WM k q f pa v))) (fz_QI D A (fun (_ : Unit) => fz_WM k q f pa v) (fun (r : Int32) (_ : Unit) => r = 0)) 0 0 A := by
  refine fz_of (by decide +kernel) (Nat.le_of_ble_eq_true rfl) ?_
  intro p e s m below meth c hx hb hr hml hown hlocks hts hin hA hP hK hD hG hS ls hl
  have hown : s.vm.findClass RX10 = some m.cls := hown
  have S0 : CallFix p m c cX10_countUnits 4 s [.ref (q 0), .int 0].toArray (fz_ws yX10_countUnits cX10_countUnits 4 (some .int)) RX10 := ⟨hx, hb, hml, hown, hts⟩
  have hl : lv_has ls 4 [(0, .ref (q 0)), (1, .int 0)] := hl
  refine lv_iconst (v := 0) hx hb dX10_countUnits_0 (by decide) ?_
  refine lv_istore_n (lv' := [(2, .int 0), (0, .ref (q 0)), (1, .int 0)]) hx hb dX10_countUnits_1 rfl hl (by decide) rfl (fun ls hl => ?_)
  refine lv_iconst (v := 0) hx hb dX10_countUnits_2 (by decide) ?_
  refine lv_istore_n (lv' := [(3, .int 0), (2, .int 0), (0, .ref (q 0)), (1, .int 0)]) hx hb dX10_countUnits_3 rfl hl (by decide) rfl (fun ls hl => ?_)
  refine lv_iload_n hx hb dX10_countUnits_4 rfl (lv_at hl 0 rfl) ?_
  refine lv_aload_n hx hb dX10_countUnits_5 rfl (lv_at hl 2 rfl) ?_
  refine va_get (D := D) (ci := 14) (v := .ref (q 1)) (C := RX10) (T := TX10) (N := 22) hx hb hts (fun w9 h9 => fz_m (fin_X10 w9 h9)) hown hK hP 0 rfl rfl 1 (by decide) (hts _ (fz_m fm_462)) (fun _ h9 => h9) rfl dX10_countUnits_6 ?_
  refine lv_iconst (v := 0) hx hb dX10_countUnits_9 (by decide) ?_
  refine va_iald hx hb hK hP 1 0 rfl rfl (fz_vin (by decide)) dX10_countUnits_10 ?_
  refine fz_I (y := 1) g_f_1_0 ?_
  refine lv_icmp_ge (tgt := 50) hx hb dX10_countUnits_11 (by decide) (fun c_1 => absurd c_1 (by decide)) (fun c_1 => ?_)
  refine lv_iload_n hx hb dX10_countUnits_14 rfl (lv_at hl 1 rfl) ?_
  refine lv_aload_n hx hb dX10_countUnits_15 rfl (lv_at hl 2 rfl) ?_
  refine lv_iload_n hx hb dX10_countUnits_16 rfl (lv_at hl 0 rfl) ?_
  refine fz_cVi (As := [.int 0]) (rest := [.int 0]) S0 (m_isUnit l A D k q f pa v 0 g_f_1_0 g_f_1_7 g_f_1_10) (fz_cwV (C := RX10) 1 hts fm_529 fm_530 fm_531 fm_532 fm_469 rfl rfl ⟨by decide, by decide, by decide +kernel⟩ ⟨Nat.le_of_ble_eq_true rfl, Nat.le_of_ble_eq_true rfl⟩) (va_recv hK hP (ci := 14) (q0 := 0) rfl rfl) (fun _ h9 => h9) (fun a9 h9 => hA a9 (Nat.le_trans hS.1 h9)) hG hS hP hK hD rfl hl.1 rfl (Nat.le_of_ble_eq_true rfl) dX10_countUnits_17 ⟨Nat.le_of_ble_eq_true rfl, Nat.le_of_ble_eq_true rfl⟩ (fun r_2 u_2 H locs hw hz1 hk1 hP hS => ?_)
  have hP : va_P D vwCl (fz_WM k q f pa v) H := hP
  obtain rfl : r_2 = 0 := hw
  refine lv_if_eq (tgt := 41) hx hb dX10_countUnits_20 (by decide) (fun c_3 => ?_) (fun c_3 => absurd (by decide) c_3)
  refine lv_iconst (v := 0) hx hb dX10_countUnits_41 (by decide) ?_
  refine lv_iadd hx hb dX10_countUnits_42 ?_
  refine fz_I (y := 0) (by decide) ?_
  refine lv_istore_n (lv' := [(2, .int 0), (3, .int 0), (0, .ref (q 0)), (1, .int 0)]) hx hb dX10_countUnits_43 rfl hl (by decide) rfl (fun ls hl => ?_)
  refine lv_iinc (v := 1) (lv' := [(3, .int 1), (2, .int 0), (0, .ref (q 0)), (1, .int 0)]) hx hb dX10_countUnits_44 hl (k := 1) rfl (by decide) (by decide) rfl (fun ls hl => ?_)
  refine lv_goto (tgt := 4) hx hb dX10_countUnits_47 (by decide) ?_
  refine lv_iload_n hx hb dX10_countUnits_4 rfl (lv_at hl 0 rfl) ?_
  refine lv_aload_n hx hb dX10_countUnits_5 rfl (lv_at hl 2 rfl) ?_
  refine va_get (D := D) (ci := 14) (v := .ref (q 1)) (C := RX10) (T := TX10) (N := 22) hx hb hts (fun w9 h9 => fz_m (fin_X10 w9 h9)) hown hK hP 0 rfl rfl 1 (by decide) (hts _ (fz_m fm_462)) (fun _ h9 => h9) rfl dX10_countUnits_6 ?_
  refine lv_iconst (v := 0) hx hb dX10_countUnits_9 (by decide) ?_
  refine va_iald hx hb hK hP 1 0 rfl rfl (fz_vin (by decide)) dX10_countUnits_10 ?_
  refine fz_I (y := 1) g_f_1_0 ?_
  refine lv_icmp_ge (tgt := 50) hx hb dX10_countUnits_11 (by decide) (fun c_4 => ?_) (fun c_4 => absurd (by decide) c_4)
  refine lv_iload_n hx hb dX10_countUnits_50 rfl (lv_at hl 1 rfl) ?_
  exact fz_iret hx hb hr rfl hlocks hS dX10_countUnits_51 () rfl hP (Nat.le_of_ble_eq_true rfl) (Nat.le_of_ble_eq_true rfl)

set_option maxHeartbeats 4000000 in
set_option maxRecDepth 100000 in
theorem m_countShown0 (l : Launch) (A : Nat → Prop) (D : va_G) (k : Nat → ClassId) (q : Nat → Nat) (f : Nat → Nat → Int32) (pa : Nat → Option Nat) (v : Nat → Int32) (g_f_1_4 : f 1 4 = 0)  :
    Met l yX10_countShown (fz_ws yX10_countShown cX10_countShown 4 (some .int)) { frames := 0, cells := 0, slots := 0, locals := 0 } (va_Pc [.ref (q 0), .int 0] (fz_PC A D (fz_tys k) (fz_WM k q f pa v))) (fz_QI D A (fun (_ : Unit) => fz_WM k q f pa v) (fun (r : Int32) (_ : Unit) => r = 0)) 0 0 A := by
  refine fz_of (by decide +kernel) (Nat.le_of_ble_eq_true rfl) ?_
  intro p e s m below meth c hx hb hr hml hown hlocks hts hin hA hP hK hD hG hS ls hl
  have hown : s.vm.findClass RX10 = some m.cls := hown
  have S0 : CallFix p m c cX10_countShown 4 s [.ref (q 0), .int 0].toArray (fz_ws yX10_countShown cX10_countShown 4 (some .int)) RX10 := ⟨hx, hb, hml, hown, hts⟩
  have hl : lv_has ls 4 [(0, .ref (q 0)), (1, .int 0)] := hl
  refine lv_iconst (v := 0) hx hb dX10_countShown_0 (by decide) ?_
  refine lv_istore_n (lv' := [(2, .int 0), (0, .ref (q 0)), (1, .int 0)]) hx hb dX10_countShown_1 rfl hl (by decide) rfl (fun ls hl => ?_)
  refine lv_iconst (v := 0) hx hb dX10_countShown_2 (by decide) ?_
  refine lv_istore_n (lv' := [(3, .int 0), (2, .int 0), (0, .ref (q 0)), (1, .int 0)]) hx hb dX10_countShown_3 rfl hl (by decide) rfl (fun ls hl => ?_)
  refine lv_iload_n hx hb dX10_countShown_4 rfl (lv_at hl 0 rfl) ?_
  refine lv_aload_n hx hb dX10_countShown_5 rfl (lv_at hl 2 rfl) ?_
  refine va_get (D := D) (ci := 14) (v := .ref (q 1)) (C := RX10) (T := TX10) (N := 22) hx hb hts (fun w9 h9 => fz_m (fin_X10 w9 h9)) hown hK hP 0 rfl rfl 1 (by decide) (hts _ (fz_m fm_462)) (fun _ h9 => h9) rfl dX10_countShown_6 ?_
  refine lv_iconst (v := 4) hx hb dX10_countShown_9 (by decide) ?_
  refine va_iald hx hb hK hP 1 0 rfl rfl (fz_vin (by decide)) dX10_countShown_10 ?_
  refine fz_I (y := 0) g_f_1_4 ?_
  refine lv_icmp_ge (tgt := 52) hx hb dX10_countShown_11 (by decide) (fun c_1 => ?_) (fun c_1 => absurd (by decide) c_1)
  refine lv_iload_n hx hb dX10_countShown_52 rfl (lv_at hl 1 rfl) ?_
  exact fz_iret hx hb hr rfl hlocks hS dX10_countShown_53 () rfl hP (Nat.le_of_ble_eq_true rfl) (Nat.le_of_ble_eq_true rfl)

set_option maxHeartbeats 4000000 in
set_option maxRecDepth 100000 in
theorem m_countOpen0 (l : Launch) (A : Nat → Prop) (D : va_G) (k : Nat → ClassId) (q : Nat → Nat) (f : Nat → Nat → Int32) (pa : Nat → Option Nat) (v : Nat → Int32) (p0 : Int32) (g_f_1_0 : f 1 0 = 1) (g_f_1_7 : f 1 7 = 1) (g_f_1_10 : f 1 10 = 0)  :
    Met l yX10_countOpen (fz_ws yX10_countOpen cX10_countOpen 7 (some .int)) { frames := 36, cells := 0, slots := 0, locals := 480 } (va_Pc [.ref (q 0), .int p0, .int 0] (fz_PC A D (fz_tys k) (fz_WM k q f pa v))) (fz_QI D A (fun (_ : Unit) => fz_WM k q f pa v) (fun (r : Int32) (_ : Unit) => r = 0)) 0 0 A := by
  refine fz_of (by decide +kernel) (Nat.le_of_ble_eq_true rfl) ?_
  intro p e s m below meth c hx hb hr hml hown hlocks hts hin hA hP hK hD hG hS ls hl
  have hown : s.vm.findClass RX10 = some m.cls := hown
  have S0 : CallFix p m c cX10_countOpen 7 s [.ref (q 0), .int p0, .int 0].toArray (fz_ws yX10_countOpen cX10_countOpen 7 (some .int)) RX10 := ⟨hx, hb, hml, hown, hts⟩
  have hl : lv_has ls 7 [(0, .ref (q 0)), (1, .int p0), (2, .int 0)] := hl
  refine lv_iconst (v := 0) hx hb dX10_countOpen_0 (by decide) ?_
  refine lv_istore_n (lv' := [(3, .int 0), (0, .ref (q 0)), (1, .int p0), (2, .int 0)]) hx hb dX10_countOpen_1 rfl hl (by decide) rfl (fun ls hl => ?_)
  refine lv_iconst (v := 0) hx hb dX10_countOpen_2 (by decide) ?_
  refine lv_istore (lv' := [(4, .int 0), (3, .int 0), (0, .ref (q 0)), (1, .int p0), (2, .int 0)]) hx hb dX10_countOpen_3 hl (by decide) rfl (fun ls hl => ?_)
  refine lv_iload hx hb dX10_countOpen_5 (lv_at hl 0 rfl) ?_
  refine lv_aload_n hx hb dX10_countOpen_7 rfl (lv_at hl 2 rfl) ?_
  refine va_get (D := D) (ci := 14) (v := .ref (q 1)) (C := RX10) (T := TX10) (N := 22) hx hb hts (fun w9 h9 => fz_m (fin_X10 w9 h9)) hown hK hP 0 rfl rfl 1 (by decide) (hts _ (fz_m fm_462)) (fun _ h9 => h9) rfl dX10_countOpen_8 ?_
  refine lv_iconst (v := 0) hx hb dX10_countOpen_11 (by decide) ?_
  refine va_iald hx hb hK hP 1 0 rfl rfl (fz_vin (by decide)) dX10_countOpen_12 ?_
  refine fz_I (y := 1) g_f_1_0 ?_
  refine lv_icmp_ge (tgt := 92) hx hb dX10_countOpen_13 (by decide) (fun c_1 => absurd c_1 (by decide)) (fun c_1 => ?_)
  refine lv_aload_n hx hb dX10_countOpen_16 rfl (lv_at hl 2 rfl) ?_
  refine lv_iload hx hb dX10_countOpen_17 (lv_at hl 0 rfl) ?_
  refine fz_cVi (As := [.int 0]) (rest := []) S0 (m_isUnit l A D k q f pa v 0 g_f_1_0 g_f_1_7 g_f_1_10) (fz_cwV (C := RX10) 1 hts fm_529 fm_530 fm_531 fm_532 fm_469 rfl rfl ⟨by decide, by decide, by decide +kernel⟩ ⟨Nat.le_of_ble_eq_true rfl, Nat.le_of_ble_eq_true rfl⟩) (va_recv hK hP (ci := 14) (q0 := 0) rfl rfl) (fun _ h9 => h9) (fun a9 h9 => hA a9 (Nat.le_trans hS.1 h9)) hG hS hP hK hD rfl hl.1 rfl (Nat.le_of_ble_eq_true rfl) dX10_countOpen_19 ⟨Nat.le_of_ble_eq_true rfl, Nat.le_of_ble_eq_true rfl⟩ (fun r_2 u_2 H locs hw hz1 hk1 hP hS => ?_)
  have hP : va_P D vwCl (fz_WM k q f pa v) H := hP
  obtain rfl : r_2 = 0 := hw
  refine lv_if_eq (tgt := 35) hx hb dX10_countOpen_22 (by decide) (fun c_3 => ?_) (fun c_3 => absurd (by decide) c_3)
  refine lv_iconst (v := 0) hx hb dX10_countOpen_35 (by decide) ?_
  refine lv_istore (lv' := [(5, .int 0), (4, .int 0), (3, .int 0), (0, .ref (q 0)), (1, .int p0), (2, .int 0)]) hx hb dX10_countOpen_36 hl (by decide) rfl (fun ls hl => ?_)
  refine lv_iload hx hb dX10_countOpen_38 (lv_at hl 0 rfl) ?_
  refine lv_if_eq (tgt := 58) hx hb dX10_countOpen_40 (by decide) (fun c_4 => ?_) (fun c_4 => absurd (by decide) c_4)
  refine lv_iconst (v := 0) hx hb dX10_countOpen_58 (by decide) ?_
  refine lv_istore (lv' := [(6, .int 0), (5, .int 0), (4, .int 0), (3, .int 0), (0, .ref (q 0)), (1, .int p0), (2, .int 0)]) hx hb dX10_countOpen_59 hl (by decide) rfl (fun ls hl => ?_)
  refine lv_iload_n hx hb dX10_countOpen_61 rfl (lv_at hl 3 rfl) ?_
  refine lv_iload_n hx hb dX10_countOpen_62 rfl (lv_at hl 6 rfl) ?_
  refine lv_if_eq (tgt := 74) hx hb dX10_countOpen_63 (by decide) (fun c_5 => ?_) (fun c_5 => absurd (by decide) c_5)
  refine lv_iload hx hb dX10_countOpen_74 (lv_at hl 0 rfl) ?_
  refine lv_if_eq (tgt := 83) hx hb dX10_countOpen_76 (by decide) (fun c_6 => ?_) (fun c_6 => absurd (by decide) c_6)
  refine lv_iconst (v := 0) hx hb dX10_countOpen_83 (by decide) ?_
  refine lv_iadd hx hb dX10_countOpen_84 ?_
  refine fz_I (y := 0) (by decide) ?_
  refine lv_istore_n (lv' := [(3, .int 0), (6, .int 0), (5, .int 0), (4, .int 0), (0, .ref (q 0)), (1, .int p0), (2, .int 0)]) hx hb dX10_countOpen_85 rfl hl (by decide) rfl (fun ls hl => ?_)
  refine lv_iinc (v := 1) (lv' := [(4, .int 1), (3, .int 0), (6, .int 0), (5, .int 0), (0, .ref (q 0)), (1, .int p0), (2, .int 0)]) hx hb dX10_countOpen_86 hl (k := 3) rfl (by decide) (by decide) rfl (fun ls hl => ?_)
  refine lv_goto (tgt := 5) hx hb dX10_countOpen_89 (by decide) ?_
  refine lv_iload hx hb dX10_countOpen_5 (lv_at hl 0 rfl) ?_
  refine lv_aload_n hx hb dX10_countOpen_7 rfl (lv_at hl 4 rfl) ?_
  refine va_get (D := D) (ci := 14) (v := .ref (q 1)) (C := RX10) (T := TX10) (N := 22) hx hb hts (fun w9 h9 => fz_m (fin_X10 w9 h9)) hown hK hP 0 rfl rfl 1 (by decide) (hts _ (fz_m fm_462)) (fun _ h9 => h9) rfl dX10_countOpen_8 ?_
  refine lv_iconst (v := 0) hx hb dX10_countOpen_11 (by decide) ?_
  refine va_iald hx hb hK hP 1 0 rfl rfl (fz_vin (by decide)) dX10_countOpen_12 ?_
  refine fz_I (y := 1) g_f_1_0 ?_
  refine lv_icmp_ge (tgt := 92) hx hb dX10_countOpen_13 (by decide) (fun c_7 => ?_) (fun c_7 => absurd (by decide) c_7)
  refine lv_iload_n hx hb dX10_countOpen_92 rfl (lv_at hl 1 rfl) ?_
  exact fz_iret hx hb hr rfl hlocks hS dX10_countOpen_93 () rfl hP (Nat.le_of_ble_eq_true rfl) (Nat.le_of_ble_eq_true rfl)

set_option maxHeartbeats 4000000 in
set_option maxRecDepth 100000 in
theorem m_countUnits1 (l : Launch) (A : Nat → Prop) (D : va_G) (k : Nat → ClassId) (q : Nat → Nat) (f : Nat → Nat → Int32) (pa : Nat → Option Nat) (v : Nat → Int32) (g_f_1_0 : f 1 0 = 1) (g_f_1_7 : f 1 7 = 1) (g_f_1_10 : f 1 10 = 0)  :
    Met l yX10_countUnits (fz_ws yX10_countUnits cX10_countUnits 4 (some .int)) { frames := 36, cells := 0, slots := 0, locals := 480 } (va_Pc [.ref (q 0), .int 1] (fz_PC A D (fz_tys k) (fz_WM k q f pa v))) (fz_QI D A (fun (_ : Unit) => fz_WM k q f pa v) (fun (r : Int32) (_ : Unit) => r = 0)) 0 0 A := by
  refine fz_of (by decide +kernel) (Nat.le_of_ble_eq_true rfl) ?_
  intro p e s m below meth c hx hb hr hml hown hlocks hts hin hA hP hK hD hG hS ls hl
  have hown : s.vm.findClass RX10 = some m.cls := hown
  have S0 : CallFix p m c cX10_countUnits 4 s [.ref (q 0), .int 1].toArray (fz_ws yX10_countUnits cX10_countUnits 4 (some .int)) RX10 := ⟨hx, hb, hml, hown, hts⟩
  have hl : lv_has ls 4 [(0, .ref (q 0)), (1, .int 1)] := hl
  refine lv_iconst (v := 0) hx hb dX10_countUnits_0 (by decide) ?_
  refine lv_istore_n (lv' := [(2, .int 0), (0, .ref (q 0)), (1, .int 1)]) hx hb dX10_countUnits_1 rfl hl (by decide) rfl (fun ls hl => ?_)
  refine lv_iconst (v := 0) hx hb dX10_countUnits_2 (by decide) ?_
  refine lv_istore_n (lv' := [(3, .int 0), (2, .int 0), (0, .ref (q 0)), (1, .int 1)]) hx hb dX10_countUnits_3 rfl hl (by decide) rfl (fun ls hl => ?_)
  refine lv_iload_n hx hb dX10_countUnits_4 rfl (lv_at hl 0 rfl) ?_
  refine lv_aload_n hx hb dX10_countUnits_5 rfl (lv_at hl 2 rfl) ?_
  refine va_get (D := D) (ci := 14) (v := .ref (q 1)) (C := RX10) (T := TX10) (N := 22) hx hb hts (fun w9 h9 => fz_m (fin_X10 w9 h9)) hown hK hP 0 rfl rfl 1 (by decide) (hts _ (fz_m fm_462)) (fun _ h9 => h9) rfl dX10_countUnits_6 ?_
  refine lv_iconst (v := 0) hx hb dX10_countUnits_9 (by decide) ?_
  refine va_iald hx hb hK hP 1 0 rfl rfl (fz_vin (by decide)) dX10_countUnits_10 ?_
  refine fz_I (y := 1) g_f_1_0 ?_
  refine lv_icmp_ge (tgt := 50) hx hb dX10_countUnits_11 (by decide) (fun c_1 => absurd c_1 (by decide)) (fun c_1 => ?_)
  refine lv_iload_n hx hb dX10_countUnits_14 rfl (lv_at hl 1 rfl) ?_
  refine lv_aload_n hx hb dX10_countUnits_15 rfl (lv_at hl 2 rfl) ?_
  refine lv_iload_n hx hb dX10_countUnits_16 rfl (lv_at hl 0 rfl) ?_
  refine fz_cVi (As := [.int 0]) (rest := [.int 0]) S0 (m_isUnit l A D k q f pa v 0 g_f_1_0 g_f_1_7 g_f_1_10) (fz_cwV (C := RX10) 1 hts fm_529 fm_530 fm_531 fm_532 fm_469 rfl rfl ⟨by decide, by decide, by decide +kernel⟩ ⟨Nat.le_of_ble_eq_true rfl, Nat.le_of_ble_eq_true rfl⟩) (va_recv hK hP (ci := 14) (q0 := 0) rfl rfl) (fun _ h9 => h9) (fun a9 h9 => hA a9 (Nat.le_trans hS.1 h9)) hG hS hP hK hD rfl hl.1 rfl (Nat.le_of_ble_eq_true rfl) dX10_countUnits_17 ⟨Nat.le_of_ble_eq_true rfl, Nat.le_of_ble_eq_true rfl⟩ (fun r_2 u_2 H locs hw hz1 hk1 hP hS => ?_)
  have hP : va_P D vwCl (fz_WM k q f pa v) H := hP
  obtain rfl : r_2 = 0 := hw
  refine lv_if_eq (tgt := 41) hx hb dX10_countUnits_20 (by decide) (fun c_3 => ?_) (fun c_3 => absurd (by decide) c_3)
  refine lv_iconst (v := 0) hx hb dX10_countUnits_41 (by decide) ?_
  refine lv_iadd hx hb dX10_countUnits_42 ?_
  refine fz_I (y := 0) (by decide) ?_
  refine lv_istore_n (lv' := [(2, .int 0), (3, .int 0), (0, .ref (q 0)), (1, .int 1)]) hx hb dX10_countUnits_43 rfl hl (by decide) rfl (fun ls hl => ?_)
  refine lv_iinc (v := 1) (lv' := [(3, .int 1), (2, .int 0), (0, .ref (q 0)), (1, .int 1)]) hx hb dX10_countUnits_44 hl (k := 1) rfl (by decide) (by decide) rfl (fun ls hl => ?_)
  refine lv_goto (tgt := 4) hx hb dX10_countUnits_47 (by decide) ?_
  refine lv_iload_n hx hb dX10_countUnits_4 rfl (lv_at hl 0 rfl) ?_
  refine lv_aload_n hx hb dX10_countUnits_5 rfl (lv_at hl 2 rfl) ?_
  refine va_get (D := D) (ci := 14) (v := .ref (q 1)) (C := RX10) (T := TX10) (N := 22) hx hb hts (fun w9 h9 => fz_m (fin_X10 w9 h9)) hown hK hP 0 rfl rfl 1 (by decide) (hts _ (fz_m fm_462)) (fun _ h9 => h9) rfl dX10_countUnits_6 ?_
  refine lv_iconst (v := 0) hx hb dX10_countUnits_9 (by decide) ?_
  refine va_iald hx hb hK hP 1 0 rfl rfl (fz_vin (by decide)) dX10_countUnits_10 ?_
  refine fz_I (y := 1) g_f_1_0 ?_
  refine lv_icmp_ge (tgt := 50) hx hb dX10_countUnits_11 (by decide) (fun c_4 => ?_) (fun c_4 => absurd (by decide) c_4)
  refine lv_iload_n hx hb dX10_countUnits_50 rfl (lv_at hl 1 rfl) ?_
  exact fz_iret hx hb hr rfl hlocks hS dX10_countUnits_51 () rfl hP (Nat.le_of_ble_eq_true rfl) (Nat.le_of_ble_eq_true rfl)

set_option maxHeartbeats 4000000 in
set_option maxRecDepth 100000 in
theorem m_countShown1 (l : Launch) (A : Nat → Prop) (D : va_G) (k : Nat → ClassId) (q : Nat → Nat) (f : Nat → Nat → Int32) (pa : Nat → Option Nat) (v : Nat → Int32) (g_f_1_4 : f 1 4 = 0)  :
    Met l yX10_countShown (fz_ws yX10_countShown cX10_countShown 4 (some .int)) { frames := 0, cells := 0, slots := 0, locals := 0 } (va_Pc [.ref (q 0), .int 1] (fz_PC A D (fz_tys k) (fz_WM k q f pa v))) (fz_QI D A (fun (_ : Unit) => fz_WM k q f pa v) (fun (r : Int32) (_ : Unit) => r = 0)) 0 0 A := by
  refine fz_of (by decide +kernel) (Nat.le_of_ble_eq_true rfl) ?_
  intro p e s m below meth c hx hb hr hml hown hlocks hts hin hA hP hK hD hG hS ls hl
  have hown : s.vm.findClass RX10 = some m.cls := hown
  have S0 : CallFix p m c cX10_countShown 4 s [.ref (q 0), .int 1].toArray (fz_ws yX10_countShown cX10_countShown 4 (some .int)) RX10 := ⟨hx, hb, hml, hown, hts⟩
  have hl : lv_has ls 4 [(0, .ref (q 0)), (1, .int 1)] := hl
  refine lv_iconst (v := 0) hx hb dX10_countShown_0 (by decide) ?_
  refine lv_istore_n (lv' := [(2, .int 0), (0, .ref (q 0)), (1, .int 1)]) hx hb dX10_countShown_1 rfl hl (by decide) rfl (fun ls hl => ?_)
  refine lv_iconst (v := 0) hx hb dX10_countShown_2 (by decide) ?_
  refine lv_istore_n (lv' := [(3, .int 0), (2, .int 0), (0, .ref (q 0)), (1, .int 1)]) hx hb dX10_countShown_3 rfl hl (by decide) rfl (fun ls hl => ?_)
  refine lv_iload_n hx hb dX10_countShown_4 rfl (lv_at hl 0 rfl) ?_
  refine lv_aload_n hx hb dX10_countShown_5 rfl (lv_at hl 2 rfl) ?_
  refine va_get (D := D) (ci := 14) (v := .ref (q 1)) (C := RX10) (T := TX10) (N := 22) hx hb hts (fun w9 h9 => fz_m (fin_X10 w9 h9)) hown hK hP 0 rfl rfl 1 (by decide) (hts _ (fz_m fm_462)) (fun _ h9 => h9) rfl dX10_countShown_6 ?_
  refine lv_iconst (v := 4) hx hb dX10_countShown_9 (by decide) ?_
  refine va_iald hx hb hK hP 1 0 rfl rfl (fz_vin (by decide)) dX10_countShown_10 ?_
  refine fz_I (y := 0) g_f_1_4 ?_
  refine lv_icmp_ge (tgt := 52) hx hb dX10_countShown_11 (by decide) (fun c_1 => ?_) (fun c_1 => absurd (by decide) c_1)
  refine lv_iload_n hx hb dX10_countShown_52 rfl (lv_at hl 1 rfl) ?_
  exact fz_iret hx hb hr rfl hlocks hS dX10_countShown_53 () rfl hP (Nat.le_of_ble_eq_true rfl) (Nat.le_of_ble_eq_true rfl)

set_option maxHeartbeats 4000000 in
set_option maxRecDepth 100000 in
theorem m_countOpen1 (l : Launch) (A : Nat → Prop) (D : va_G) (k : Nat → ClassId) (q : Nat → Nat) (f : Nat → Nat → Int32) (pa : Nat → Option Nat) (v : Nat → Int32) (p0 : Int32) (g_f_1_0 : f 1 0 = 1) (g_f_1_7 : f 1 7 = 1) (g_f_1_10 : f 1 10 = 0)  :
    Met l yX10_countOpen (fz_ws yX10_countOpen cX10_countOpen 7 (some .int)) { frames := 36, cells := 0, slots := 0, locals := 480 } (va_Pc [.ref (q 0), .int p0, .int 1] (fz_PC A D (fz_tys k) (fz_WM k q f pa v))) (fz_QI D A (fun (_ : Unit) => fz_WM k q f pa v) (fun (r : Int32) (_ : Unit) => r = 0)) 0 0 A := by
  refine fz_of (by decide +kernel) (Nat.le_of_ble_eq_true rfl) ?_
  intro p e s m below meth c hx hb hr hml hown hlocks hts hin hA hP hK hD hG hS ls hl
  have hown : s.vm.findClass RX10 = some m.cls := hown
  have S0 : CallFix p m c cX10_countOpen 7 s [.ref (q 0), .int p0, .int 1].toArray (fz_ws yX10_countOpen cX10_countOpen 7 (some .int)) RX10 := ⟨hx, hb, hml, hown, hts⟩
  have hl : lv_has ls 7 [(0, .ref (q 0)), (1, .int p0), (2, .int 1)] := hl
  refine lv_iconst (v := 0) hx hb dX10_countOpen_0 (by decide) ?_
  refine lv_istore_n (lv' := [(3, .int 0), (0, .ref (q 0)), (1, .int p0), (2, .int 1)]) hx hb dX10_countOpen_1 rfl hl (by decide) rfl (fun ls hl => ?_)
  refine lv_iconst (v := 0) hx hb dX10_countOpen_2 (by decide) ?_
  refine lv_istore (lv' := [(4, .int 0), (3, .int 0), (0, .ref (q 0)), (1, .int p0), (2, .int 1)]) hx hb dX10_countOpen_3 hl (by decide) rfl (fun ls hl => ?_)
  refine lv_iload hx hb dX10_countOpen_5 (lv_at hl 0 rfl) ?_
  refine lv_aload_n hx hb dX10_countOpen_7 rfl (lv_at hl 2 rfl) ?_
  refine va_get (D := D) (ci := 14) (v := .ref (q 1)) (C := RX10) (T := TX10) (N := 22) hx hb hts (fun w9 h9 => fz_m (fin_X10 w9 h9)) hown hK hP 0 rfl rfl 1 (by decide) (hts _ (fz_m fm_462)) (fun _ h9 => h9) rfl dX10_countOpen_8 ?_
  refine lv_iconst (v := 0) hx hb dX10_countOpen_11 (by decide) ?_
  refine va_iald hx hb hK hP 1 0 rfl rfl (fz_vin (by decide)) dX10_countOpen_12 ?_
  refine fz_I (y := 1) g_f_1_0 ?_
  refine lv_icmp_ge (tgt := 92) hx hb dX10_countOpen_13 (by decide) (fun c_1 => absurd c_1 (by decide)) (fun c_1 => ?_)
  refine lv_aload_n hx hb dX10_countOpen_16 rfl (lv_at hl 2 rfl) ?_
  refine lv_iload hx hb dX10_countOpen_17 (lv_at hl 0 rfl) ?_
  refine fz_cVi (As := [.int 0]) (rest := []) S0 (m_isUnit l A D k q f pa v 0 g_f_1_0 g_f_1_7 g_f_1_10) (fz_cwV (C := RX10) 1 hts fm_529 fm_530 fm_531 fm_532 fm_469 rfl rfl ⟨by decide, by decide, by decide +kernel⟩ ⟨Nat.le_of_ble_eq_true rfl, Nat.le_of_ble_eq_true rfl⟩) (va_recv hK hP (ci := 14) (q0 := 0) rfl rfl) (fun _ h9 => h9) (fun a9 h9 => hA a9 (Nat.le_trans hS.1 h9)) hG hS hP hK hD rfl hl.1 rfl (Nat.le_of_ble_eq_true rfl) dX10_countOpen_19 ⟨Nat.le_of_ble_eq_true rfl, Nat.le_of_ble_eq_true rfl⟩ (fun r_2 u_2 H locs hw hz1 hk1 hP hS => ?_)
  have hP : va_P D vwCl (fz_WM k q f pa v) H := hP
  obtain rfl : r_2 = 0 := hw
  refine lv_if_eq (tgt := 35) hx hb dX10_countOpen_22 (by decide) (fun c_3 => ?_) (fun c_3 => absurd (by decide) c_3)
  refine lv_iconst (v := 0) hx hb dX10_countOpen_35 (by decide) ?_
  refine lv_istore (lv' := [(5, .int 0), (4, .int 0), (3, .int 0), (0, .ref (q 0)), (1, .int p0), (2, .int 1)]) hx hb dX10_countOpen_36 hl (by decide) rfl (fun ls hl => ?_)
  refine lv_iload hx hb dX10_countOpen_38 (lv_at hl 0 rfl) ?_
  refine lv_if_eq (tgt := 58) hx hb dX10_countOpen_40 (by decide) (fun c_4 => ?_) (fun c_4 => absurd (by decide) c_4)
  refine lv_iconst (v := 0) hx hb dX10_countOpen_58 (by decide) ?_
  refine lv_istore (lv' := [(6, .int 0), (5, .int 0), (4, .int 0), (3, .int 0), (0, .ref (q 0)), (1, .int p0), (2, .int 1)]) hx hb dX10_countOpen_59 hl (by decide) rfl (fun ls hl => ?_)
  refine lv_iload_n hx hb dX10_countOpen_61 rfl (lv_at hl 3 rfl) ?_
  refine lv_iload_n hx hb dX10_countOpen_62 rfl (lv_at hl 6 rfl) ?_
  refine lv_if_eq (tgt := 74) hx hb dX10_countOpen_63 (by decide) (fun c_5 => absurd c_5 (by decide)) (fun c_5 => ?_)
  refine lv_iload hx hb dX10_countOpen_66 (lv_at hl 1 rfl) ?_
  refine fz_cSi (As := [.int 0]) (rest := [.int 0]) S0 (m_countBits l A D k q f pa v ) (fz_cwS 1 hts fm_533 fm_534 fm_535 fm_469 rfl rfl ⟨by decide, by decide, by decide +kernel⟩ ⟨Nat.le_of_ble_eq_true rfl, Nat.le_of_ble_eq_true rfl⟩) (fun _ h9 => h9) (fun a9 h9 => hA a9 (Nat.le_trans hS.1 h9)) hG hS hP hK hD rfl hl.1 rfl (Nat.le_of_ble_eq_true rfl) dX10_countOpen_68 ⟨Nat.le_of_ble_eq_true rfl, Nat.le_of_ble_eq_true rfl⟩ (fun r_6 u_6 H locs hw hz1 hk1 hP hS => ?_)
  have hP : va_P D vwCl (fz_WM k q f pa v) H := hP
  obtain rfl : r_6 = 0 := hw
  refine lv_goto (tgt := 84) hx hb dX10_countOpen_71 (by decide) ?_
  refine lv_iadd hx hb dX10_countOpen_84 ?_
  refine fz_I (y := 0) (by decide) ?_
  refine lv_istore_n (lv' := [(3, .int 0), (6, .int 0), (5, .int 0), (4, .int 0), (0, .ref (q 0)), (1, .int p0), (2, .int 1)]) hx hb dX10_countOpen_85 rfl hl (by decide) rfl (fun ls hl => ?_)
  refine lv_iinc (v := 1) (lv' := [(4, .int 1), (3, .int 0), (6, .int 0), (5, .int 0), (0, .ref (q 0)), (1, .int p0), (2, .int 1)]) hx hb dX10_countOpen_86 hl (k := 3) rfl (by decide) (by decide) rfl (fun ls hl => ?_)
  refine lv_goto (tgt := 5) hx hb dX10_countOpen_89 (by decide) ?_
  refine lv_iload hx hb dX10_countOpen_5 (lv_at hl 0 rfl) ?_
  refine lv_aload_n hx hb dX10_countOpen_7 rfl (lv_at hl 4 rfl) ?_
  refine va_get (D := D) (ci := 14) (v := .ref (q 1)) (C := RX10) (T := TX10) (N := 22) hx hb hts (fun w9 h9 => fz_m (fin_X10 w9 h9)) hown hK hP 0 rfl rfl 1 (by decide) (hts _ (fz_m fm_462)) (fun _ h9 => h9) rfl dX10_countOpen_8 ?_
  refine lv_iconst (v := 0) hx hb dX10_countOpen_11 (by decide) ?_
  refine va_iald hx hb hK hP 1 0 rfl rfl (fz_vin (by decide)) dX10_countOpen_12 ?_
  refine fz_I (y := 1) g_f_1_0 ?_
  refine lv_icmp_ge (tgt := 92) hx hb dX10_countOpen_13 (by decide) (fun c_7 => ?_) (fun c_7 => absurd (by decide) c_7)
  refine lv_iload_n hx hb dX10_countOpen_92 rfl (lv_at hl 1 rfl) ?_
  exact fz_iret hx hb hr rfl hlocks hS dX10_countOpen_93 () rfl hP (Nat.le_of_ble_eq_true rfl) (Nat.le_of_ble_eq_true rfl)

set_option maxHeartbeats 4000000 in
set_option maxRecDepth 100000 in
theorem m_countCopiesThere (l : Launch) (A : Nat → Prop) (D : va_G) (k : Nat → ClassId) (q : Nat → Nat) (f : Nat → Nat → Int32) (pa : Nat → Option Nat) (v : Nat → Int32) (g_f_1_3 : f 1 3 = 0)  :
    Met l yX10_countCopiesThere (fz_ws yX10_countCopiesThere cX10_countCopiesThere 3 (some .int)) { frames := 0, cells := 0, slots := 0, locals := 0 } (va_Pc [.ref (q 0)] (fz_PC A D (fz_tys k) (fz_WM k q f pa v))) (fz_QI D A (fun (_ : Unit) => fz_WM k q f pa v) (fun (r : Int32) (_ : Unit) => r = 0)) 0 0 A := by
  refine fz_of (by decide +kernel) (Nat.le_of_ble_eq_true rfl) ?_
  intro p e s m below meth c hx hb hr hml hown hlocks hts hin hA hP hK hD hG hS ls hl
  have hown : s.vm.findClass RX10 = some m.cls := hown
  have S0 : CallFix p m c cX10_countCopiesThere 3 s [.ref (q 0)].toArray (fz_ws yX10_countCopiesThere cX10_countCopiesThere 3 (some .int)) RX10 := ⟨hx, hb, hml, hown, hts⟩
  have hl : lv_has ls 3 [(0, .ref (q 0))] := hl
  refine lv_iconst (v := 0) hx hb dX10_countCopiesThere_0 (by decide) ?_
  refine lv_istore_n (lv' := [(1, .int 0), (0, .ref (q 0))]) hx hb dX10_countCopiesThere_1 rfl hl (by decide) rfl (fun ls hl => ?_)
  refine lv_iconst (v := 0) hx hb dX10_countCopiesThere_2 (by decide) ?_
  refine lv_istore_n (lv' := [(2, .int 0), (1, .int 0), (0, .ref (q 0))]) hx hb dX10_countCopiesThere_3 rfl hl (by decide) rfl (fun ls hl => ?_)
  refine lv_iload_n hx hb dX10_countCopiesThere_4 rfl (lv_at hl 0 rfl) ?_
  refine lv_aload_n hx hb dX10_countCopiesThere_5 rfl (lv_at hl 2 rfl) ?_
  refine va_get (D := D) (ci := 14) (v := .ref (q 1)) (C := RX10) (T := TX10) (N := 22) hx hb hts (fun w9 h9 => fz_m (fin_X10 w9 h9)) hown hK hP 0 rfl rfl 1 (by decide) (hts _ (fz_m fm_462)) (fun _ h9 => h9) rfl dX10_countCopiesThere_6 ?_
  refine lv_iconst (v := 3) hx hb dX10_countCopiesThere_9 (by decide) ?_
  refine va_iald hx hb hK hP 1 0 rfl rfl (fz_vin (by decide)) dX10_countCopiesThere_10 ?_
  refine fz_I (y := 0) g_f_1_3 ?_
  refine lv_icmp_ge (tgt := 36) hx hb dX10_countCopiesThere_11 (by decide) (fun c_1 => ?_) (fun c_1 => absurd (by decide) c_1)
  refine lv_iload_n hx hb dX10_countCopiesThere_36 rfl (lv_at hl 1 rfl) ?_
  exact fz_iret hx hb hr rfl hlocks hS dX10_countCopiesThere_37 () rfl hP (Nat.le_of_ble_eq_true rfl) (Nat.le_of_ble_eq_true rfl)

set_option maxHeartbeats 4000000 in
set_option maxRecDepth 100000 in
theorem m_countMarks (l : Launch) (A : Nat → Prop) (D : va_G) (k : Nat → ClassId) (q : Nat → Nat) (f : Nat → Nat → Int32) (pa : Nat → Option Nat) (v : Nat → Int32) (g_f_1_6 : f 1 6 = 0)  :
    Met l yX10_countMarks (fz_ws yX10_countMarks cX10_countMarks 3 (some .int)) { frames := 0, cells := 0, slots := 0, locals := 0 } (va_Pc [.ref (q 0)] (fz_PC A D (fz_tys k) (fz_WM k q f pa v))) (fz_QI D A (fun (_ : Unit) => fz_WM k q f pa v) (fun (r : Int32) (_ : Unit) => r = 0)) 0 0 A := by
  refine fz_of (by decide +kernel) (Nat.le_of_ble_eq_true rfl) ?_
  intro p e s m below meth c hx hb hr hml hown hlocks hts hin hA hP hK hD hG hS ls hl
  have hown : s.vm.findClass RX10 = some m.cls := hown
  have S0 : CallFix p m c cX10_countMarks 3 s [.ref (q 0)].toArray (fz_ws yX10_countMarks cX10_countMarks 3 (some .int)) RX10 := ⟨hx, hb, hml, hown, hts⟩
  have hl : lv_has ls 3 [(0, .ref (q 0))] := hl
  refine lv_iconst (v := 0) hx hb dX10_countMarks_0 (by decide) ?_
  refine lv_istore_n (lv' := [(1, .int 0), (0, .ref (q 0))]) hx hb dX10_countMarks_1 rfl hl (by decide) rfl (fun ls hl => ?_)
  refine lv_iconst (v := 0) hx hb dX10_countMarks_2 (by decide) ?_
  refine lv_istore_n (lv' := [(2, .int 0), (1, .int 0), (0, .ref (q 0))]) hx hb dX10_countMarks_3 rfl hl (by decide) rfl (fun ls hl => ?_)
  refine lv_iload_n hx hb dX10_countMarks_4 rfl (lv_at hl 0 rfl) ?_
  refine lv_aload_n hx hb dX10_countMarks_5 rfl (lv_at hl 2 rfl) ?_
  refine va_get (D := D) (ci := 14) (v := .ref (q 1)) (C := RX10) (T := TX10) (N := 22) hx hb hts (fun w9 h9 => fz_m (fin_X10 w9 h9)) hown hK hP 0 rfl rfl 1 (by decide) (hts _ (fz_m fm_462)) (fun _ h9 => h9) rfl dX10_countMarks_6 ?_
  refine lv_bipush (v := 6) hx hb dX10_countMarks_9 (by decide) ?_
  refine va_iald hx hb hK hP 1 0 rfl rfl (fz_vin (by decide)) dX10_countMarks_11 ?_
  refine fz_I (y := 0) g_f_1_6 ?_
  refine lv_icmp_ge (tgt := 46) hx hb dX10_countMarks_12 (by decide) (fun c_1 => ?_) (fun c_1 => absurd (by decide) c_1)
  refine lv_iload_n hx hb dX10_countMarks_46 rfl (lv_at hl 1 rfl) ?_
  exact fz_iret hx hb hr rfl hlocks hS dX10_countMarks_47 () rfl hP (Nat.le_of_ble_eq_true rfl) (Nat.le_of_ble_eq_true rfl)

set_option maxHeartbeats 4000000 in
set_option maxRecDepth 100000 in
theorem m_countOn (l : Launch) (A : Nat → Prop) (D : va_G) (k : Nat → ClassId) (q : Nat → Nat) (f : Nat → Nat → Int32) (pa : Nat → Option Nat) (v : Nat → Int32) (p0 : Int32) (g_f_1_4 : f 1 4 = 0)  :
    Met l yX10_countOn (fz_ws yX10_countOn cX10_countOn 4 (some .int)) { frames := 0, cells := 0, slots := 0, locals := 0 } (va_Pc [.ref (q 0), .int p0] (fz_PC A D (fz_tys k) (fz_WM k q f pa v))) (fz_QI D A (fun (_ : Unit) => fz_WM k q f pa v) (fun (r : Int32) (_ : Unit) => r = 0)) 0 0 A := by
  refine fz_of (by decide +kernel) (Nat.le_of_ble_eq_true rfl) ?_
  intro p e s m below meth c hx hb hr hml hown hlocks hts hin hA hP hK hD hG hS ls hl
  have hown : s.vm.findClass RX10 = some m.cls := hown
  have S0 : CallFix p m c cX10_countOn 4 s [.ref (q 0), .int p0].toArray (fz_ws yX10_countOn cX10_countOn 4 (some .int)) RX10 := ⟨hx, hb, hml, hown, hts⟩
  have hl : lv_has ls 4 [(0, .ref (q 0)), (1, .int p0)] := hl
  refine lv_iconst (v := 0) hx hb dX10_countOn_0 (by decide) ?_
  refine lv_istore_n (lv' := [(2, .int 0), (0, .ref (q 0)), (1, .int p0)]) hx hb dX10_countOn_1 rfl hl (by decide) rfl (fun ls hl => ?_)
  refine lv_iconst (v := 0) hx hb dX10_countOn_2 (by decide) ?_
  refine lv_istore_n (lv' := [(3, .int 0), (2, .int 0), (0, .ref (q 0)), (1, .int p0)]) hx hb dX10_countOn_3 rfl hl (by decide) rfl (fun ls hl => ?_)
  refine lv_iload_n hx hb dX10_countOn_4 rfl (lv_at hl 0 rfl) ?_
  refine lv_aload_n hx hb dX10_countOn_5 rfl (lv_at hl 2 rfl) ?_
  refine va_get (D := D) (ci := 14) (v := .ref (q 1)) (C := RX10) (T := TX10) (N := 22) hx hb hts (fun w9 h9 => fz_m (fin_X10 w9 h9)) hown hK hP 0 rfl rfl 1 (by decide) (hts _ (fz_m fm_462)) (fun _ h9 => h9) rfl dX10_countOn_6 ?_
  refine lv_iconst (v := 4) hx hb dX10_countOn_9 (by decide) ?_
  refine va_iald hx hb hK hP 1 0 rfl rfl (fz_vin (by decide)) dX10_countOn_10 ?_
  refine fz_I (y := 0) g_f_1_4 ?_
  refine lv_icmp_ge (tgt := 38) hx hb dX10_countOn_11 (by decide) (fun c_1 => ?_) (fun c_1 => absurd (by decide) c_1)
  refine lv_iload_n hx hb dX10_countOn_38 rfl (lv_at hl 1 rfl) ?_
  exact fz_iret hx hb hr rfl hlocks hS dX10_countOn_39 () rfl hP (Nat.le_of_ble_eq_true rfl) (Nat.le_of_ble_eq_true rfl)

set_option maxHeartbeats 4000000 in
set_option maxRecDepth 100000 in
theorem m_seesDigit (l : Launch) (A : Nat → Prop) (D : va_G) (k : Nat → ClassId) (q : Nat → Nat) (f : Nat → Nat → Int32) (pa : Nat → Option Nat) (v : Nat → Int32) (p0 : Int32) (g_v_18 : v 18 = 0) (g_v_16 : v 16 = 0) (g_v_15 : v 15 = 0)  :
    Met l yX10_seesDigit (fz_ws yX10_seesDigit cX10_seesDigit 2 (some .boolean)) { frames := 0, cells := 0, slots := 0, locals := 0 } (va_Pc [.ref (q 0), .int p0] (fz_PC A D (fz_tys k) (fz_WM k q f pa v))) (fz_QI D A (fun (_ : Unit) => fz_WM k q f pa v) (fun (r : Int32) (_ : Unit) => r = 0)) 0 0 A := by
  refine fz_of (by decide +kernel) (Nat.le_of_ble_eq_true rfl) ?_
  intro p e s m below meth c hx hb hr hml hown hlocks hts hin hA hP hK hD hG hS ls hl
  have hown : s.vm.findClass RX10 = some m.cls := hown
  have S0 : CallFix p m c cX10_seesDigit 2 s [.ref (q 0), .int p0].toArray (fz_ws yX10_seesDigit cX10_seesDigit 2 (some .boolean)) RX10 := ⟨hx, hb, hml, hown, hts⟩
  have hl : lv_has ls 2 [(0, .ref (q 0)), (1, .int p0)] := hl
  refine lv_aload_n hx hb dX10_seesDigit_0 rfl (lv_at hl 0 rfl) ?_
  refine va_get (D := D) (ci := 14) (v := .int (v 18)) (C := RX10) (T := TX10) (N := 22) hx hb hts (fun w9 h9 => fz_m (fin_X10 w9 h9)) hown hK hP 0 rfl rfl 18 (by decide) (hts _ (fz_m fm_536)) (fun _ h9 => h9) rfl dX10_seesDigit_1 ?_
  refine fz_I (y := 0) g_v_18 ?_
  refine lv_if_ne (tgt := 49) hx hb dX10_seesDigit_4 (by decide) (fun c_1 => absurd (by decide) c_1) (fun c_1 => ?_)
  refine lv_aload_n hx hb dX10_seesDigit_7 rfl (lv_at hl 0 rfl) ?_
  refine va_get (D := D) (ci := 14) (v := .int (v 16)) (C := RX10) (T := TX10) (N := 22) hx hb hts (fun w9 h9 => fz_m (fin_X10 w9 h9)) hown hK hP 0 rfl rfl 16 (by decide) (hts _ (fz_m fm_537)) (fun _ h9 => h9) rfl dX10_seesDigit_8 ?_
  refine fz_I (y := 0) g_v_16 ?_
  refine lv_aload_n hx hb dX10_seesDigit_11 rfl (lv_at hl 0 rfl) ?_
  refine va_get (D := D) (ci := 14) (v := .int (v 15)) (C := RX10) (T := TX10) (N := 22) hx hb hts (fun w9 h9 => fz_m (fin_X10 w9 h9)) hown hK hP 0 rfl rfl 15 (by decide) (hts _ (fz_m fm_538)) (fun _ h9 => h9) rfl dX10_seesDigit_12 ?_
  refine fz_I (y := 0) g_v_15 ?_
  refine lv_icmp_ge (tgt := 49) hx hb dX10_seesDigit_15 (by decide) (fun c_2 => ?_) (fun c_2 => absurd (by decide) c_2)
  refine lv_iconst (v := 0) hx hb dX10_seesDigit_49 (by decide) ?_
  exact fz_iret hx hb hr rfl hlocks hS dX10_seesDigit_50 () rfl hP (Nat.le_of_ble_eq_true rfl) (Nat.le_of_ble_eq_true rfl)

set_option maxHeartbeats 4000000 in
set_option maxRecDepth 100000 in
theorem m_passNode (l : Launch) (A : Nat → Prop) (D : va_G) (k : Nat → ClassId) (q : Nat → Nat) (f : Nat → Nat → Int32) (pa : Nat → Option Nat) (v : Nat → Int32) (g_v_18 : v 18 = 0) (g_v_16 : v 16 = 0) (g_v_15 : v 15 = 0)  :
    Met l yX10_passNode (fz_ws yX10_passNode cX10_passNode 8 none) { frames := 12, cells := 0, slots := 0, locals := 160 } (va_Pc [.ref (q 0), .int 0, .int 0] (fz_PC A D (fz_tys k) (fz_WM k q f pa v))) (fz_QV D A (fun (_ : Unit) => fz_WM k q f pa (va_up v 18 1)) (fun (_ : Unit) => True)) 0 0 A := by
  refine fz_of (by decide +kernel) (Nat.le_of_ble_eq_true rfl) ?_
  intro p e s m below meth c hx hb hr hml hown hlocks hts hin hA hP hK hD hG hS ls hl
  have hown : s.vm.findClass RX10 = some m.cls := hown
  have S0 : CallFix p m c cX10_passNode 8 s [.ref (q 0), .int 0, .int 0].toArray (fz_ws yX10_passNode cX10_passNode 8 none) RX10 := ⟨hx, hb, hml, hown, hts⟩
  have hl : lv_has ls 8 [(0, .ref (q 0)), (1, .int 0), (2, .int 0)] := hl
  refine lv_aload_n hx hb dX10_passNode_0 rfl (lv_at hl 0 rfl) ?_
  refine lv_dup hx hb dX10_passNode_1 rfl ?_
  refine va_get (D := D) (ci := 14) (v := .int (v 18)) (C := RX10) (T := TX10) (N := 22) hx hb hts (fun w9 h9 => fz_m (fin_X10 w9 h9)) hown hK hP 0 rfl rfl 18 (by decide) (hts _ (fz_m fm_536)) (fun _ h9 => h9) rfl dX10_passNode_2 ?_
  refine fz_I (y := 0) g_v_18 ?_
  refine lv_aload_n hx hb dX10_passNode_5 rfl (lv_at hl 0 rfl) ?_
  refine lv_bipush (v := 51) hx hb dX10_passNode_6 (by decide) ?_
  refine fz_cVi (As := [.int 51]) (rest := [.int 0, .ref (q 0)]) S0 (m_seesDigit l A D k q f pa v 51 g_v_18 g_v_16 g_v_15) (fz_cwV (C := RX10) 1 hts fm_539 fm_540 fm_541 fm_542 fm_469 rfl rfl ⟨by decide, by decide, by decide +kernel⟩ ⟨Nat.le_of_ble_eq_true rfl, Nat.le_of_ble_eq_true rfl⟩) (va_recv hK hP (ci := 14) (q0 := 0) rfl rfl) (fun _ h9 => h9) (fun a9 h9 => hA a9 (Nat.le_trans hS.1 h9)) hG hS hP hK hD rfl hl.1 rfl (Nat.le_of_ble_eq_true rfl) dX10_passNode_8 ⟨Nat.le_of_ble_eq_true rfl, Nat.le_of_ble_eq_true rfl⟩ (fun r_1 u_1 H locs hw hz1 hk1 hP hS => ?_)
  have hP : va_P D vwCl (fz_WM k q f pa v) H := hP
  obtain rfl : r_1 = 0 := hw
  refine lv_if_ne (tgt := 18) hx hb dX10_passNode_11 (by decide) (fun c_2 => absurd (by decide) c_2) (fun c_2 => ?_)
  refine lv_iconst (v := 1) hx hb dX10_passNode_14 (by decide) ?_
  refine lv_goto (tgt := 19) hx hb dX10_passNode_15 (by decide) ?_
  refine lv_ior hx hb dX10_passNode_19 ?_
  refine fz_I (y := 1) (by decide) ?_
  refine va_put (D := D) (ci := 14) (v := .int 1) (ty := .boolean) (C := RX10) (T := TX10) (N := 22) hx hb hts (fun w9 h9 => fz_m (fin_X10 w9 h9)) tyX10 tyX10_ok nmX10 hown hK hP hD hS 0 rfl rfl 18 (by decide) (hts _ (fz_m fm_536)) (fun _ h9 => h9) rfl (by decide +kernel) rfl rfl (Nat.le_of_ble_eq_true rfl) dX10_passNode_20 (fun H locs hP hD hS => ?_)
  have hP : va_P D vwCl (fz_WM k q f pa (va_up v 18 1)) H := hP
  have hD : va_D A (fz_WM k q f pa (va_up v 18 1)) := hD
  refine lv_aload_n hx hb dX10_passNode_23 rfl (lv_at hl 0 rfl) ?_
  refine va_get (D := D) (ci := 14) (v := .int ((va_up v 18 1) 18)) (C := RX10) (T := TX10) (N := 22) hx hb hts (fun w9 h9 => fz_m (fin_X10 w9 h9)) hown hK hP 0 rfl rfl 18 (by decide) (hts _ (fz_m fm_536)) (fun _ h9 => h9) rfl dX10_passNode_24 ?_
  refine fz_I (y := 1) rfl ?_
  refine lv_if_eq (tgt := 31) hx hb dX10_passNode_27 (by decide) (fun c_3 => absurd c_3 (by decide)) (fun c_3 => ?_)
  exact fz_vret hx hb hr hlocks hS dX10_passNode_30 () trivial hP (Nat.le_of_ble_eq_true rfl) (Nat.le_of_ble_eq_true rfl)

set_option maxHeartbeats 4000000 in
set_option maxRecDepth 100000 in
theorem m_writeLetter (l : Launch) (A : Nat → Prop) (D : va_G) (k : Nat → ClassId) (q : Nat → Nat) (f : Nat → Nat → Int32) (pa : Nat → Option Nat) (v : Nat → Int32) (g_v_21 : v 21 = 0)  :
    Met l yX10_writeLetter (fz_ws yX10_writeLetter cX10_writeLetter 2 none) { frames := 0, cells := 0, slots := 0, locals := 0 } (va_Pc [.ref (q 0), .int 48] (fz_PC A D (fz_tys k) (fz_WM k q f pa v))) (fz_QV D A (fun (_ : Unit) => fz_WM k q (va_up f 6 (upd (f 6) 0 48)) pa (va_up v 21 1)) (fun (_ : Unit) => True)) 0 0 A := by
  refine fz_of (by decide +kernel) (Nat.le_of_ble_eq_true rfl) ?_
  intro p e s m below meth c hx hb hr hml hown hlocks hts hin hA hP hK hD hG hS ls hl
  have hown : s.vm.findClass RX10 = some m.cls := hown
  have S0 : CallFix p m c cX10_writeLetter 2 s [.ref (q 0), .int 48].toArray (fz_ws yX10_writeLetter cX10_writeLetter 2 none) RX10 := ⟨hx, hb, hml, hown, hts⟩
  have hl : lv_has ls 2 [(0, .ref (q 0)), (1, .int 48)] := hl
  refine lv_aload_n hx hb dX10_writeLetter_0 rfl (lv_at hl 0 rfl) ?_
  refine va_get (D := D) (ci := 14) (v := .ref (q 6)) (C := RX10) (T := TX10) (N := 22) hx hb hts (fun w9 h9 => fz_m (fin_X10 w9 h9)) hown hK hP 0 rfl rfl 20 (by decide) (hts _ (fz_m fm_543)) (fun _ h9 => h9) rfl dX10_writeLetter_1 ?_
  refine lv_aload_n hx hb dX10_writeLetter_4 rfl (lv_at hl 0 rfl) ?_
  refine va_get (D := D) (ci := 14) (v := .int (v 21)) (C := RX10) (T := TX10) (N := 22) hx hb hts (fun w9 h9 => fz_m (fin_X10 w9 h9)) hown hK hP 0 rfl rfl 21 (by decide) (hts _ (fz_m fm_544)) (fun _ h9 => h9) rfl dX10_writeLetter_5 ?_
  refine fz_I (y := 0) g_v_21 ?_
  refine lv_iload_n hx hb dX10_writeLetter_8 rfl (lv_at hl 1 rfl) ?_
  refine va_cast hx hb hK hP hD hS 6 1 rfl rfl (fz_vin (by decide)) dX10_writeLetter_9 (fun H locs hP hD hS => ?_)
  have hP : va_P D vwCl (fz_WM k q (va_up f 6 (upd (f 6) 0 48)) pa v) H := hP
  have hD : va_D A (fz_WM k q (va_up f 6 (upd (f 6) 0 48)) pa v) := hD
  refine lv_aload_n hx hb dX10_writeLetter_10 rfl (lv_at hl 0 rfl) ?_
  refine lv_dup hx hb dX10_writeLetter_11 rfl ?_
  refine va_get (D := D) (ci := 14) (v := .int (v 21)) (C := RX10) (T := TX10) (N := 22) hx hb hts (fun w9 h9 => fz_m (fin_X10 w9 h9)) hown hK hP 0 rfl rfl 21 (by decide) (hts _ (fz_m fm_544)) (fun _ h9 => h9) rfl dX10_writeLetter_12 ?_
  refine fz_I (y := 0) g_v_21 ?_
  refine lv_iconst (v := 1) hx hb dX10_writeLetter_15 (by decide) ?_
  refine lv_iadd hx hb dX10_writeLetter_16 ?_
  refine fz_I (y := 1) (by decide) ?_
  refine va_put (D := D) (ci := 14) (v := .int 1) (ty := .int) (C := RX10) (T := TX10) (N := 22) hx hb hts (fun w9 h9 => fz_m (fin_X10 w9 h9)) tyX10 tyX10_ok nmX10 hown hK hP hD hS 0 rfl rfl 21 (by decide) (hts _ (fz_m fm_544)) (fun _ h9 => h9) rfl (by decide +kernel) rfl rfl (Nat.le_of_ble_eq_true rfl) dX10_writeLetter_17 (fun H locs hP hD hS => ?_)
  have hP : va_P D vwCl (fz_WM k q (va_up f 6 (upd (f 6) 0 48)) pa (va_up v 21 1)) H := hP
  have hD : va_D A (fz_WM k q (va_up f 6 (upd (f 6) 0 48)) pa (va_up v 21 1)) := hD
  exact fz_vret hx hb hr hlocks hS dX10_writeLetter_20 () trivial hP (Nat.le_of_ble_eq_true rfl) (Nat.le_of_ble_eq_true rfl)

set_option maxHeartbeats 4000000 in
set_option maxRecDepth 100000 in
theorem m_writeNumber (l : Launch) (A : Nat → Prop) (D : va_G) (k : Nat → ClassId) (q : Nat → Nat) (f : Nat → Nat → Int32) (pa : Nat → Option Nat) (v : Nat → Int32) (g_v_21 : v 21 = 0)  :
    Met l yX10_writeNumber (fz_ws yX10_writeNumber cX10_writeNumber 2 none) { frames := 12, cells := 0, slots := 0, locals := 160 } (va_Pc [.ref (q 0), .int 0] (fz_PC A D (fz_tys k) (fz_WM k q f pa v))) (fz_QV D A (fun (_ : Unit) => fz_WM k q (va_up f 6 (upd (f 6) 0 48)) pa (va_up v 21 1)) (fun (_ : Unit) => True)) 0 0 A := by
  refine fz_of (by decide +kernel) (Nat.le_of_ble_eq_true rfl) ?_
  intro p e s m below meth c hx hb hr hml hown hlocks hts hin hA hP hK hD hG hS ls hl
  have hown : s.vm.findClass RX10 = some m.cls := hown
  have S0 : CallFix p m c cX10_writeNumber 2 s [.ref (q 0), .int 0].toArray (fz_ws yX10_writeNumber cX10_writeNumber 2 none) RX10 := ⟨hx, hb, hml, hown, hts⟩
  have hl : lv_has ls 2 [(0, .ref (q 0)), (1, .int 0)] := hl
  refine lv_iload_n hx hb dX10_writeNumber_0 rfl (lv_at hl 1 rfl) ?_
  refine lv_bipush (v := 9) hx hb dX10_writeNumber_1 (by decide) ?_
  refine lv_icmp_le (tgt := 14) hx hb dX10_writeNumber_3 (by decide) (fun c_1 => ?_) (fun c_1 => absurd (by decide) c_1)
  refine lv_aload_n hx hb dX10_writeNumber_14 rfl (lv_at hl 0 rfl) ?_
  refine lv_bipush (v := 48) hx hb dX10_writeNumber_15 (by decide) ?_
  refine lv_iload_n hx hb dX10_writeNumber_17 rfl (lv_at hl 1 rfl) ?_
  refine lv_bipush (v := 10) hx hb dX10_writeNumber_18 (by decide) ?_
  refine lv_irem hx hb dX10_writeNumber_20 (by decide) ?_
  refine fz_I (y := 0) (by decide) ?_
  refine lv_iadd hx hb dX10_writeNumber_21 ?_
  refine fz_I (y := 48) (by decide) ?_
  refine lv_i2c (v := 48) hx hb dX10_writeNumber_22 (by decide) ?_
  refine fz_cVv (As := [.int 48]) (rest := []) S0 (m_writeLetter l A D k q f pa v g_v_21) (fz_cwV (C := RX10) 1 hts fm_545 fm_546 fm_547 fm_548 fm_469 rfl rfl ⟨by decide, by decide, by decide +kernel⟩ ⟨Nat.le_of_ble_eq_true rfl, Nat.le_of_ble_eq_true rfl⟩) (va_recv hK hP (ci := 14) (q0 := 0) rfl rfl) (fun _ h9 => h9) (fun a9 h9 => hA a9 (Nat.le_trans hS.1 h9)) hG hS hP hK hD rfl hl.1 rfl (Nat.le_of_ble_eq_true rfl) dX10_writeNumber_23 ⟨Nat.le_of_ble_eq_true rfl, Nat.le_of_ble_eq_true rfl⟩ (fun u_2 H locs hw hz1 hk1 hP hS => ?_)
  have hP : va_P D vwCl (fz_WM k q (va_up f 6 (upd (f 6) 0 48)) pa (va_up v 21 1)) H := hP
  have hD : va_D A (fz_WM k q (va_up f 6 (upd (f 6) 0 48)) pa (va_up v 21 1)) := fz_Dsame hD rfl
  exact fz_vret hx hb hr hlocks hS dX10_writeNumber_26 () trivial hP (Nat.le_of_ble_eq_true rfl) (Nat.le_of_ble_eq_true rfl)

set_option maxHeartbeats 4000000 in
set_option maxRecDepth 100000 in
theorem m_writeNode (l : Launch) (A : Nat → Prop) (D : va_G) (k : Nat → ClassId) (q : Nat → Nat) (f : Nat → Nat → Int32) (pa : Nat → Option Nat) (v : Nat → Int32) (g_f_1_8 : f 1 8 = 0) (g_v_21 : v 21 = 0) (g_f_1_10 : f 1 10 = 0) (g_f_1_11 : f 1 11 = (-1)) (g_f_1_0 : f 1 0 = 1)  :
    Met l yX10_writeNode (fz_ws yX10_writeNode cX10_writeNode 4 none) { frames := 24, cells := 0, slots := 0, locals := 320 } (va_Pc [.ref (q 0), .int 0] (fz_PC A D (fz_tys k) (fz_WM k q f pa v))) (fz_QV D A (fun (_ : Unit) => fz_WM k q (va_up f 6 (upd (f 6) 0 48)) pa (va_up v 21 1)) (fun (_ : Unit) => True)) 0 0 A := by
  refine fz_of (by decide +kernel) (Nat.le_of_ble_eq_true rfl) ?_
  intro p e s m below meth c hx hb hr hml hown hlocks hts hin hA hP hK hD hG hS ls hl
  have hown : s.vm.findClass RX10 = some m.cls := hown
  have S0 : CallFix p m c cX10_writeNode 4 s [.ref (q 0), .int 0].toArray (fz_ws yX10_writeNode cX10_writeNode 4 none) RX10 := ⟨hx, hb, hml, hown, hts⟩
  have hl : lv_has ls 4 [(0, .ref (q 0)), (1, .int 0)] := hl
  refine lv_aload_n hx hb dX10_writeNode_0 rfl (lv_at hl 0 rfl) ?_
  refine lv_aload_n hx hb dX10_writeNode_1 rfl (lv_at hl 0 rfl) ?_
  refine lv_iload_n hx hb dX10_writeNode_2 rfl (lv_at hl 1 rfl) ?_
  refine lv_iconst (v := 1) hx hb dX10_writeNode_3 (by decide) ?_
  refine fz_cVi (As := [.int 0, .int 1]) (rest := [.ref (q 0)]) S0 (m_of1 l A D k q f pa v g_f_1_8) (fz_cwV (C := RX10) 2 hts fm_477 fm_478 fm_479 fm_480 fm_469 rfl rfl ⟨by decide, by decide, by decide +kernel⟩ ⟨Nat.le_of_ble_eq_true rfl, Nat.le_of_ble_eq_true rfl⟩) (va_recv hK hP (ci := 14) (q0 := 0) rfl rfl) (fun _ h9 => h9) (fun a9 h9 => hA a9 (Nat.le_trans hS.1 h9)) hG hS hP hK hD rfl hl.1 rfl (Nat.le_of_ble_eq_true rfl) dX10_writeNode_4 ⟨Nat.le_of_ble_eq_true rfl, Nat.le_of_ble_eq_true rfl⟩ (fun r_1 u_1 H locs hw hz1 hk1 hP hS => ?_)
  have hP : va_P D vwCl (fz_WM k q f pa v) H := hP
  obtain rfl : r_1 = 0 := hw
  refine fz_cVv (As := [.int 0]) (rest := []) S0 (m_writeNumber l A D k q f pa v g_v_21) (fz_cwV (C := RX10) 1 hts fm_549 fm_550 fm_551 fm_552 fm_469 rfl rfl ⟨by decide, by decide, by decide +kernel⟩ ⟨Nat.le_of_ble_eq_true rfl, Nat.le_of_ble_eq_true rfl⟩) (va_recv hK hP (ci := 14) (q0 := 0) rfl rfl) (fun _ h9 => h9) (fun a9 h9 => hA a9 (Nat.le_trans hS.1 h9)) hG hS hP hK hD rfl hl.1 rfl (Nat.le_of_ble_eq_true rfl) dX10_writeNode_7 ⟨Nat.le_of_ble_eq_true rfl, Nat.le_of_ble_eq_true rfl⟩ (fun u_2 H locs hw hz1 hk1 hP hS => ?_)
  have hP : va_P D vwCl (fz_WM k q (va_up f 6 (upd (f 6) 0 48)) pa (va_up v 21 1)) H := hP
  have hD : va_D A (fz_WM k q (va_up f 6 (upd (f 6) 0 48)) pa (va_up v 21 1)) := fz_Dsame hD rfl
  refine lv_aload_n hx hb dX10_writeNode_10 rfl (lv_at hl 0 rfl) ?_
  refine lv_iload_n hx hb dX10_writeNode_11 rfl (lv_at hl 1 rfl) ?_
  refine lv_iconst (v := 3) hx hb dX10_writeNode_12 (by decide) ?_
  refine fz_cVi (As := [.int 0, .int 3]) (rest := []) S0 (m_of3 l A D k q (va_up f 6 (upd (f 6) 0 48)) pa (va_up v 21 1) g_f_1_10) (fz_cwV (C := RX10) 2 hts fm_477 fm_478 fm_479 fm_480 fm_469 rfl rfl ⟨by decide, by decide, by decide +kernel⟩ ⟨Nat.le_of_ble_eq_true rfl, Nat.le_of_ble_eq_true rfl⟩) (va_recv hK hP (ci := 14) (q0 := 0) rfl rfl) (fun _ h9 => h9) (fun a9 h9 => hA a9 (Nat.le_trans hS.1 h9)) hG hS hP hK hD rfl hl.1 rfl (Nat.le_of_ble_eq_true rfl) dX10_writeNode_13 ⟨Nat.le_of_ble_eq_true rfl, Nat.le_of_ble_eq_true rfl⟩ (fun r_3 u_3 H locs hw hz1 hk1 hP hS => ?_)
  have hP : va_P D vwCl (fz_WM k q (va_up f 6 (upd (f 6) 0 48)) pa (va_up v 21 1)) H := hP
  obtain rfl : r_3 = 0 := hw
  refine lv_if_le (tgt := 35) hx hb dX10_writeNode_16 (by decide) (fun c_4 => ?_) (fun c_4 => absurd (by decide) c_4)
  refine lv_aload_n hx hb dX10_writeNode_35 rfl (lv_at hl 0 rfl) ?_
  refine lv_iload_n hx hb dX10_writeNode_36 rfl (lv_at hl 1 rfl) ?_
  refine lv_iconst (v := 4) hx hb dX10_writeNode_37 (by decide) ?_
  refine fz_cVi (As := [.int 0, .int 4]) (rest := []) S0 (m_of4 l A D k q (va_up f 6 (upd (f 6) 0 48)) pa (va_up v 21 1) g_f_1_11) (fz_cwV (C := RX10) 2 hts fm_477 fm_478 fm_479 fm_480 fm_469 rfl rfl ⟨by decide, by decide, by decide +kernel⟩ ⟨Nat.le_of_ble_eq_true rfl, Nat.le_of_ble_eq_true rfl⟩) (va_recv hK hP (ci := 14) (q0 := 0) rfl rfl) (fun _ h9 => h9) (fun a9 h9 => hA a9 (Nat.le_trans hS.1 h9)) hG hS hP hK hD rfl hl.1 rfl (Nat.le_of_ble_eq_true rfl) dX10_writeNode_38 ⟨Nat.le_of_ble_eq_true rfl, Nat.le_of_ble_eq_true rfl⟩ (fun r_5 u_5 H locs hw hz1 hk1 hP hS => ?_)
  have hP : va_P D vwCl (fz_WM k q (va_up f 6 (upd (f 6) 0 48)) pa (va_up v 21 1)) H := hP
  obtain rfl : r_5 = (-1) := hw
  refine lv_if_lt (tgt := 76) hx hb dX10_writeNode_41 (by decide) (fun c_6 => ?_) (fun c_6 => absurd (by decide) c_6)
  refine lv_iconst (v := 1) hx hb dX10_writeNode_76 (by decide) ?_
  refine lv_istore_n (lv' := [(2, .int 1), (0, .ref (q 0)), (1, .int 0)]) hx hb dX10_writeNode_77 rfl hl (by decide) rfl (fun ls hl => ?_)
  refine lv_aload_n hx hb dX10_writeNode_78 rfl (lv_at hl 1 rfl) ?_
  refine lv_iload_n hx hb dX10_writeNode_79 rfl (lv_at hl 2 rfl) ?_
  refine lv_iconst (v := (-1)) hx hb dX10_writeNode_80 (by decide) ?_
  refine fz_cVi (As := [.int 0, .int (-1)]) (rest := []) S0 (m_nextChild l A D k q (va_up f 6 (upd (f 6) 0 48)) pa (va_up v 21 1) g_f_1_0) (fz_cwV (C := RX10) 2 hts fm_499 fm_500 fm_501 fm_502 fm_469 rfl rfl ⟨by decide, by decide, by decide +kernel⟩ ⟨Nat.le_of_ble_eq_true rfl, Nat.le_of_ble_eq_true rfl⟩) (va_recv hK hP (ci := 14) (q0 := 0) rfl rfl) (fun _ h9 => h9) (fun a9 h9 => hA a9 (Nat.le_trans hS.1 h9)) hG hS hP hK hD rfl hl.1 rfl (Nat.le_of_ble_eq_true rfl) dX10_writeNode_81 ⟨Nat.le_of_ble_eq_true rfl, Nat.le_of_ble_eq_true rfl⟩ (fun r_7 u_7 H locs hw hz1 hk1 hP hS => ?_)
  have hP : va_P D vwCl (fz_WM k q (va_up f 6 (upd (f 6) 0 48)) pa (va_up v 21 1)) H := hP
  obtain rfl : r_7 = (-1) := hw
  refine lv_istore_n (lv' := [(3, .int (-1)), (2, .int 1), (0, .ref (q 0)), (1, .int 0)]) hx hb dX10_writeNode_84 rfl hl (by decide) rfl (fun ls hl => ?_)
  refine lv_iload_n hx hb dX10_writeNode_85 rfl (lv_at hl 0 rfl) ?_
  refine lv_if_lt (tgt := 127) hx hb dX10_writeNode_86 (by decide) (fun c_8 => ?_) (fun c_8 => absurd (by decide) c_8)
  refine lv_iload_n hx hb dX10_writeNode_127 rfl (lv_at hl 1 rfl) ?_
  refine lv_if_ne (tgt := 137) hx hb dX10_writeNode_128 (by decide) (fun c_9 => ?_) (fun c_9 => absurd c_9 (by decide))
  exact fz_vret hx hb hr hlocks hS dX10_writeNode_137 () trivial hP (Nat.le_of_ble_eq_true rfl) (Nat.le_of_ble_eq_true rfl)

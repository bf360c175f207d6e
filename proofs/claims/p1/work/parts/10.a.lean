set_option maxHeartbeats 4000000 in
set_option maxRecDepth 100000 in
theorem c_has (l : Launch) (A : Nat → Prop) (D : va_G) (k : Nat → ClassId) (q : Nat → Nat) (f : Nat → Nat → Int32) (pa : Nat → Option Nat) (v : Nat → Int32) (p0 : Int32) (g_v_1 : v 1 = 1) (g_f_4_0 : f 4 0 = 0)  :
    Met l yX8_has (fz_ws yX8_has cX8_has 2 (some .boolean)) { frames := 0, cells := 0, slots := 0, locals := 0 } (va_Pc [.ref (q 1), .int p0] (fz_PC A D (fz_tys k) (fz_WC k q f pa v))) (fz_QI D A (fun (_ : Unit) => fz_WC k q f pa v) (fun (r : Int32) (_ : Unit) => (r = 1 ∧ p0 = 0) ∨ (r = 0 ∧ ¬ (p0 = 0)))) 0 0 A := by
  refine fz_of (by decide +kernel) (Nat.le_of_ble_eq_true rfl) ?_
  intro p e s m below meth c hx hb hr hml hown hlocks hts hin hA hP hK hD hG hS ls hl
  have hown : s.vm.findClass RX8 = some m.cls := hown
  have S0 : CallFix p m c cX8_has 2 s [.ref (q 1), .int p0].toArray (fz_ws yX8_has cX8_has 2 (some .boolean)) RX8 := ⟨hx, hb, hml, hown, hts⟩
  have hl : lv_has ls 2 [(0, .ref (q 1)), (1, .int p0)] := hl
  refine lv_iload_n hx hb dX8_has_0 rfl (lv_at hl 1 rfl) ?_
  refine lv_if_lt (tgt := 26) hx hb dX8_has_1 (by decide) (fun c_1 => ?_) (fun c_1 => ?_)
  · skip
    refine lv_iconst (v := 0) hx hb dX8_has_26 (by decide) ?_
    exact fz_iret hx hb hr rfl hlocks hS dX8_has_27 () (Or.inr ⟨rfl, (fq_0 p0 c_1)⟩) hP (Nat.le_of_ble_eq_true rfl) (Nat.le_of_ble_eq_true rfl)
  · skip
    refine lv_iload_n hx hb dX8_has_4 rfl (lv_at hl 1 rfl) ?_
    refine lv_aload_n hx hb dX8_has_5 rfl (lv_at hl 0 rfl) ?_
    refine va_get (D := D) (ci := 12) (v := .int (v 1)) (C := RX8) (T := TX8) (N := 10) hx hb hts (fun w9 h9 => fz_m (fin_X8 w9 h9)) hown hK hP 1 rfl rfl 0 (by decide) (hts _ (fz_m fm_0)) (fun _ h9 => h9) rfl dX8_has_6 ?_
    refine fz_I (y := 1) g_v_1 ?_
    refine lv_icmp_ge (tgt := 26) hx hb dX8_has_9 (by decide) (fun c_2 => ?_) (fun c_2 => ?_)
    · skip
      refine lv_iconst (v := 0) hx hb dX8_has_26 (by decide) ?_
      exact fz_iret hx hb hr rfl hlocks hS dX8_has_27 () (Or.inr ⟨rfl, (fq_1 p0 c_2)⟩) hP (Nat.le_of_ble_eq_true rfl) (Nat.le_of_ble_eq_true rfl)
    · skip
      obtain rfl : p0 = 0 := (fq_2 p0 c_1 c_2)
      refine lv_aload_n hx hb dX8_has_12 rfl (lv_at hl 0 rfl) ?_
      refine va_get (D := D) (ci := 12) (v := .ref (q 4)) (C := RX8) (T := TX8) (N := 10) hx hb hts (fun w9 h9 => fz_m (fin_X8 w9 h9)) hown hK hP 1 rfl rfl 4 (by decide) (hts _ (fz_m fm_1)) (fun _ h9 => h9) rfl dX8_has_13 ?_
      refine lv_iload_n hx hb dX8_has_16 rfl (lv_at hl 1 rfl) ?_
      refine va_iald hx hb hK hP 4 0 rfl rfl (fz_vin (by decide)) dX8_has_17 ?_
      refine fz_I (y := 0) g_f_4_0 ?_
      refine lv_iconst (v := (-1)) hx hb dX8_has_18 (by decide) ?_
      refine lv_icmp_eq (tgt := 26) hx hb dX8_has_19 (by decide) (fun c_3 => absurd c_3 (by decide)) (fun c_3 => ?_)
      refine lv_iconst (v := 1) hx hb dX8_has_22 (by decide) ?_
      refine lv_goto (tgt := 27) hx hb dX8_has_23 (by decide) ?_
      exact fz_iret hx hb hr rfl hlocks hS dX8_has_27 () (Or.inl ⟨rfl, (fq_3 )⟩) hP (Nat.le_of_ble_eq_true rfl) (Nat.le_of_ble_eq_true rfl)

set_option maxHeartbeats 4000000 in
set_option maxRecDepth 100000 in
theorem c_place (l : Launch) (A : Nat → Prop) (D : va_G) (k : Nat → ClassId) (q : Nat → Nat) (f : Nat → Nat → Int32) (pa : Nat → Option Nat) (v : Nat → Int32) (p0 : Int32) (g_v_2 : v 2 = 1)  :
    Met l yX8_place (fz_ws yX8_place cX8_place 3 (some .int)) { frames := 0, cells := 0, slots := 0, locals := 0 } (va_Pc [.ref (q 1), .int p0] (fz_PC A D (fz_tys k) (fz_WC k q f pa v))) (fz_QI D A (fun (_ : Unit) => fz_WC k q f pa v) (fun (r : Int32) (_ : Unit) => r = 0)) 0 0 A := by
  refine fz_of (by decide +kernel) (Nat.le_of_ble_eq_true rfl) ?_
  intro p e s m below meth c hx hb hr hml hown hlocks hts hin hA hP hK hD hG hS ls hl
  have hown : s.vm.findClass RX8 = some m.cls := hown
  have S0 : CallFix p m c cX8_place 3 s [.ref (q 1), .int p0].toArray (fz_ws yX8_place cX8_place 3 (some .int)) RX8 := ⟨hx, hb, hml, hown, hts⟩
  have hl : lv_has ls 3 [(0, .ref (q 1)), (1, .int p0)] := hl
  refine lv_iconst (v := 0) hx hb dX8_place_0 (by decide) ?_
  refine lv_istore_n (lv' := [(2, .int 0), (0, .ref (q 1)), (1, .int p0)]) hx hb dX8_place_1 rfl hl (by decide) rfl (fun ls hl => ?_)
  refine lv_iload_n hx hb dX8_place_2 rfl (lv_at hl 0 rfl) ?_
  refine lv_aload_n hx hb dX8_place_3 rfl (lv_at hl 1 rfl) ?_
  refine va_get (D := D) (ci := 12) (v := .int (v 2)) (C := RX8) (T := TX8) (N := 10) hx hb hts (fun w9 h9 => fz_m (fin_X8 w9 h9)) hown hK hP 1 rfl rfl 1 (by decide) (hts _ (fz_m fm_2)) (fun _ h9 => h9) rfl dX8_place_4 ?_
  refine fz_I (y := 1) g_v_2 ?_
  refine lv_iconst (v := 1) hx hb dX8_place_7 (by decide) ?_
  refine lv_isub hx hb dX8_place_8 ?_
  refine fz_I (y := 0) (by decide) ?_
  refine lv_icmp_ge (tgt := 28) hx hb dX8_place_9 (by decide) (fun c_1 => ?_) (fun c_1 => absurd (by decide) c_1)
  refine lv_iload_n hx hb dX8_place_28 rfl (lv_at hl 0 rfl) ?_
  exact fz_iret hx hb hr rfl hlocks hS dX8_place_29 () rfl hP (Nat.le_of_ble_eq_true rfl) (Nat.le_of_ble_eq_true rfl)

set_option maxHeartbeats 4000000 in
set_option maxRecDepth 100000 in
theorem c_reqNode (l : Launch) (hl0 : l.stackTraces = false) (A : Nat → Prop) (D : va_G) (k : Nat → ClassId) (q : Nat → Nat) (f : Nat → Nat → Int32) (pa : Nat → Option Nat) (v : Nat → Int32) (p0 : Int32) (g_v_1 : v 1 = 1) (g_f_4_0 : f 4 0 = 0)  :
    vx_Met l yX9_requireNode (fz_ws yX9_requireNode cX9_requireNode 2 none) { frames := 12, cells := 1, slots := 6, locals := 160 } (va_Pc [.ref (q 31), .int p0] (fz_PC A D (fz_tys k) (fz_WC k q f pa v))) (fz_QV D A (fun (_ : Unit) => fz_WC k q f pa v) (fun (_ : Unit) => p0 = 0)) (fz_XC (fun E => (E = "java/lang/IndexOutOfBoundsException" ∧ ¬ (p0 = 0))) A) 1 6 A := by
  refine fz_ofX (by decide +kernel) (Nat.le_of_ble_eq_true rfl) ?_
  intro p e s m below meth c hx hb hr hml hown hlocks hts ht hA hP hK hD hG hS ls hl
  have hown : s.vm.findClass RX9 = some m.cls := hown
  have S0 : CallFix p m c cX9_requireNode 2 s [.ref (q 31), .int p0].toArray (fz_ws yX9_requireNode cX9_requireNode 2 none) RX9 := ⟨hx, hb, hml, hown, hts⟩
  have hl : lv_has ls 2 [(0, .ref (q 31)), (1, .int p0)] := hl
  refine lv_aload_n hx hb dX9_requireNode_0 rfl (lv_at hl 0 rfl) ?_
  refine va_get (D := D) (ci := 13) (v := .ref (q 0)) (C := RX9) (T := TX9) (N := 8) hx hb hts (fun w9 h9 => fz_m (fin_X9 w9 h9)) hown hK hP 31 rfl rfl 0 (by decide) (hts _ (fz_m fm_3)) (fun _ h9 => h9) rfl dX9_requireNode_1 ?_
  refine va_get (D := D) (ci := 11) (v := .ref (q 1)) (C := RX7) (T := TX7) (N := 6) hx hb hts (fun w9 h9 => fz_m (fin_X7 w9 h9)) hown hK hP 0 rfl rfl 0 (by decide) (hts _ (fz_m fm_4)) (fun _ h9 => h9) rfl dX9_requireNode_4 ?_
  refine lv_iload_n hx hb dX9_requireNode_7 rfl (lv_at hl 1 rfl) ?_
  refine fz_cVi (As := [.int p0]) (rest := []) S0 (c_has l A D k q f pa v p0 g_v_1 g_f_4_0) (fz_cwV (C := RX8) 1 hts fm_5 fm_6 fm_7 fm_8 fm_9 rfl rfl ⟨by decide, by decide, by decide +kernel⟩ ⟨Nat.le_of_ble_eq_true rfl, Nat.le_of_ble_eq_true rfl⟩) (va_recv hK hP (ci := 12) (q0 := 1) rfl rfl) (fun _ h9 => h9) (fun a9 h9 => hA a9 (Nat.le_trans hS.1 h9)) hG hS hP hK hD rfl hl.1 rfl (Nat.le_of_ble_eq_true rfl) dX9_requireNode_8 ⟨Nat.le_of_ble_eq_true rfl, Nat.le_of_ble_eq_true rfl⟩ (fun r_1 u_1 H locs hw hz1 hk1 hP hS => ?_)
  have hP : va_P D vwCl (fz_WC k q f pa v) H := hP
  rcases (show (r_1 = 1 ∧ p0 = 0) ∨ (r_1 = 0 ∧ ¬ (p0 = 0)) from hw) with ⟨rfl, hq_1⟩ | ⟨rfl, hq_1⟩
  · skip
    obtain rfl : p0 = 0 := (fq_4 p0 hq_1)
    refine lv_if_ne (tgt := 25) hx hb dX9_requireNode_11 (by decide) (fun c_2 => ?_) (fun c_2 => absurd c_2 (by decide))
    exact vx_ret (fz_vret hx hb hr hlocks hS dX9_requireNode_25 () (fq_3 ) hP (Nat.le_of_ble_eq_true rfl) (Nat.le_of_ble_eq_true rfl))
  · skip
    refine lv_if_ne (tgt := 25) hx hb dX9_requireNode_11 (by decide) (fun c_3 => absurd (by decide) c_3) (fun c_3 => ?_)
    exact fz_throwW (cls := "java/lang/IndexOutOfBoundsException") (text := "no such node") (names := fz_EN) (ik := 161) (is := 491) (ic := 165) hx hb hl0 hown hts hG (fz_fit_165) ⟨fm_10, fm_11⟩ (by decide) fz_at_165 fz_ok_165 hS (hl.1.trans hml.symm) dX9_requireNode_14 dX9_requireNode_17 dX9_requireNode_18 dX9_requireNode_21 dX9_requireNode_24 ht hlocks ⟨Nat.le_of_ble_eq_true rfl, Nat.le_of_ble_eq_true rfl, Nat.le_of_ble_eq_true rfl, Nat.le_of_ble_eq_true rfl⟩ ⟨rfl, (fq_5 p0 hq_1)⟩ ⟨Nat.le_of_ble_eq_true rfl, Nat.le_of_ble_eq_true rfl⟩

set_option maxHeartbeats 4000000 in
set_option maxRecDepth 100000 in
theorem c_reqPart (l : Launch) (hl0 : l.stackTraces = false) (A : Nat → Prop) (D : va_G) (k : Nat → ClassId) (q : Nat → Nat) (f : Nat → Nat → Int32) (pa : Nat → Option Nat) (v : Nat → Int32) (p0 p1 : Int32)   :
    vx_Met l yX9_requirePart (fz_ws yX9_requirePart cX9_requirePart 2 none) { frames := 12, cells := 1, slots := 6, locals := 160 } (va_Pc [.int p0, .int p1] (fz_PC A D (fz_tys k) (fz_WC k q f pa v))) (fz_QV D A (fun (_ : Unit) => fz_WC k q f pa v) (fun (_ : Unit) => (0 ≤ p0 ∧ p0 ≤ p1))) (fz_XC (fun E => (E = "java/lang/IllegalArgumentException" ∧ (p0 < 0 ∨ p1 < p0))) A) 1 6 A := by
  refine fz_ofX (by decide +kernel) (Nat.le_of_ble_eq_true rfl) ?_
  intro p e s m below meth c hx hb hr hml hown hlocks hts ht hA hP hK hD hG hS ls hl
  have hown : s.vm.findClass RX9 = some m.cls := hown
  have S0 : CallFix p m c cX9_requirePart 2 s [.int p0, .int p1].toArray (fz_ws yX9_requirePart cX9_requirePart 2 none) RX9 := ⟨hx, hb, hml, hown, hts⟩
  have hl : lv_has ls 2 [(0, .int p0), (1, .int p1)] := hl
  refine lv_iload_n hx hb dX9_requirePart_0 rfl (lv_at hl 0 rfl) ?_
  refine lv_if_lt (tgt := 9) hx hb dX9_requirePart_1 (by decide) (fun c_1 => ?_) (fun c_1 => ?_)
  · skip
    exact fz_throwW (cls := "java/lang/IllegalArgumentException") (text := "no such part") (names := fz_EN) (ik := 69) (is := 503) (ic := 73) hx hb hl0 hown hts hG (fz_fit_73) ⟨fm_12, fm_13⟩ (by decide) fz_at_73 fz_ok_73 hS (hl.1.trans hml.symm) dX9_requirePart_9 dX9_requirePart_12 dX9_requirePart_13 dX9_requirePart_16 dX9_requirePart_19 ht hlocks ⟨Nat.le_of_ble_eq_true rfl, Nat.le_of_ble_eq_true rfl, Nat.le_of_ble_eq_true rfl, Nat.le_of_ble_eq_true rfl⟩ ⟨rfl, (fq_6 p0 p1 c_1)⟩ ⟨Nat.le_of_ble_eq_true rfl, Nat.le_of_ble_eq_true rfl⟩
  · skip
    refine lv_iload_n hx hb dX9_requirePart_4 rfl (lv_at hl 0 rfl) ?_
    refine lv_iload_n hx hb dX9_requirePart_5 rfl (lv_at hl 1 rfl) ?_
    refine lv_icmp_le (tgt := 20) hx hb dX9_requirePart_6 (by decide) (fun c_2 => ?_) (fun c_2 => ?_)
    · skip
      exact vx_ret (fz_vret hx hb hr hlocks hS dX9_requirePart_20 () (fq_7 p0 p1 c_1 c_2) hP (Nat.le_of_ble_eq_true rfl) (Nat.le_of_ble_eq_true rfl))
    · skip
      exact fz_throwW (cls := "java/lang/IllegalArgumentException") (text := "no such part") (names := fz_EN) (ik := 69) (is := 503) (ic := 73) hx hb hl0 hown hts hG (fz_fit_73) ⟨fm_12, fm_13⟩ (by decide) fz_at_73 fz_ok_73 hS (hl.1.trans hml.symm) dX9_requirePart_9 dX9_requirePart_12 dX9_requirePart_13 dX9_requirePart_16 dX9_requirePart_19 ht hlocks ⟨Nat.le_of_ble_eq_true rfl, Nat.le_of_ble_eq_true rfl, Nat.le_of_ble_eq_true rfl, Nat.le_of_ble_eq_true rfl⟩ ⟨rfl, (fq_8 p0 p1 c_2)⟩ ⟨Nat.le_of_ble_eq_true rfl, Nat.le_of_ble_eq_true rfl⟩

set_option maxHeartbeats 4000000 in
set_option maxRecDepth 100000 in
theorem c_findChild (l : Launch) (A : Nat → Prop) (D : va_G) (k : Nat → ClassId) (q : Nat → Nat) (f : Nat → Nat → Int32) (pa : Nat → Option Nat) (v : Nat → Int32) (p0 : Int32) (g_v_2 : v 2 = 1) (g_f_2_0 : f 2 0 = 0) (g_f_5_0 : f 5 0 = (-1))  :
    Met l yX8_findChild (fz_ws yX8_findChild cX8_findChild 5 (some .int)) { frames := 0, cells := 0, slots := 0, locals := 0 } (va_Pc [.ref (q 1), .int 0, .int p0] (fz_PC A D (fz_tys k) (fz_WC k q f pa v))) (fz_QI D A (fun (_ : Unit) => fz_WC k q f pa v) (fun (r : Int32) (_ : Unit) => r = (-1))) 0 0 A := by
  refine fz_of (by decide +kernel) (Nat.le_of_ble_eq_true rfl) ?_
  intro p e s m below meth c hx hb hr hml hown hlocks hts hin hA hP hK hD hG hS ls hl
  have hown : s.vm.findClass RX8 = some m.cls := hown
  have S0 : CallFix p m c cX8_findChild 5 s [.ref (q 1), .int 0, .int p0].toArray (fz_ws yX8_findChild cX8_findChild 5 (some .int)) RX8 := ⟨hx, hb, hml, hown, hts⟩
  have hl : lv_has ls 5 [(0, .ref (q 1)), (1, .int 0), (2, .int p0)] := hl
  refine lv_iconst (v := 0) hx hb dX8_findChild_0 (by decide) ?_
  refine lv_istore_n (lv' := [(3, .int 0), (0, .ref (q 1)), (1, .int 0), (2, .int p0)]) hx hb dX8_findChild_1 rfl hl (by decide) rfl (fun ls hl => ?_)
  refine lv_iconst (v := 0) hx hb dX8_findChild_2 (by decide) ?_
  refine lv_istore (lv' := [(4, .int 0), (3, .int 0), (0, .ref (q 1)), (1, .int 0), (2, .int p0)]) hx hb dX8_findChild_3 hl (by decide) rfl (fun ls hl => ?_)
  refine lv_iload hx hb dX8_findChild_5 (lv_at hl 0 rfl) ?_
  refine lv_aload_n hx hb dX8_findChild_7 rfl (lv_at hl 2 rfl) ?_
  refine va_get (D := D) (ci := 12) (v := .int (v 2)) (C := RX8) (T := TX8) (N := 10) hx hb hts (fun w9 h9 => fz_m (fin_X8 w9 h9)) hown hK hP 1 rfl rfl 1 (by decide) (hts _ (fz_m fm_2)) (fun _ h9 => h9) rfl dX8_findChild_8 ?_
  refine fz_I (y := 1) g_v_2 ?_
  refine lv_icmp_ge (tgt := 52) hx hb dX8_findChild_11 (by decide) (fun c_1 => absurd c_1 (by decide)) (fun c_1 => ?_)
  refine lv_aload_n hx hb dX8_findChild_14 rfl (lv_at hl 2 rfl) ?_
  refine va_get (D := D) (ci := 12) (v := .ref (q 5)) (C := RX8) (T := TX8) (N := 10) hx hb hts (fun w9 h9 => fz_m (fin_X8 w9 h9)) hown hK hP 1 rfl rfl 5 (by decide) (hts _ (fz_m fm_14)) (fun _ h9 => h9) rfl dX8_findChild_15 ?_
  refine lv_aload_n hx hb dX8_findChild_18 rfl (lv_at hl 2 rfl) ?_
  refine va_get (D := D) (ci := 12) (v := .ref (q 2)) (C := RX8) (T := TX8) (N := 10) hx hb hts (fun w9 h9 => fz_m (fin_X8 w9 h9)) hown hK hP 1 rfl rfl 2 (by decide) (hts _ (fz_m fm_15)) (fun _ h9 => h9) rfl dX8_findChild_19 ?_
  refine lv_iload hx hb dX8_findChild_22 (lv_at hl 0 rfl) ?_
  refine va_iald hx hb hK hP 2 0 rfl rfl (fz_vin (by decide)) dX8_findChild_24 ?_
  refine fz_I (y := 0) g_f_2_0 ?_
  refine va_iald hx hb hK hP 5 0 rfl rfl (fz_vin (by decide)) dX8_findChild_25 ?_
  refine fz_I (y := (-1)) g_f_5_0 ?_
  refine lv_iload_n hx hb dX8_findChild_26 rfl (lv_at hl 3 rfl) ?_
  refine lv_icmp_ne (tgt := 46) hx hb dX8_findChild_27 (by decide) (fun c_2 => ?_) (fun c_2 => absurd c_2 (by decide))
  refine lv_iinc (v := 1) (lv' := [(4, .int 1), (3, .int 0), (0, .ref (q 1)), (1, .int 0), (2, .int p0)]) hx hb dX8_findChild_46 hl (k := 0) rfl (by decide) (by decide) rfl (fun ls hl => ?_)
  refine lv_goto (tgt := 5) hx hb dX8_findChild_49 (by decide) ?_
  refine lv_iload hx hb dX8_findChild_5 (lv_at hl 0 rfl) ?_
  refine lv_aload_n hx hb dX8_findChild_7 rfl (lv_at hl 2 rfl) ?_
  refine va_get (D := D) (ci := 12) (v := .int (v 2)) (C := RX8) (T := TX8) (N := 10) hx hb hts (fun w9 h9 => fz_m (fin_X8 w9 h9)) hown hK hP 1 rfl rfl 1 (by decide) (hts _ (fz_m fm_2)) (fun _ h9 => h9) rfl dX8_findChild_8 ?_
  refine fz_I (y := 1) g_v_2 ?_
  refine lv_icmp_ge (tgt := 52) hx hb dX8_findChild_11 (by decide) (fun c_3 => ?_) (fun c_3 => absurd (by decide) c_3)
  refine lv_iconst (v := (-1)) hx hb dX8_findChild_52 (by decide) ?_
  exact fz_iret hx hb hr rfl hlocks hS dX8_findChild_53 () rfl hP (Nat.le_of_ble_eq_true rfl) (Nat.le_of_ble_eq_true rfl)

set_option maxHeartbeats 4000000 in
set_option maxRecDepth 100000 in
theorem c_child (l : Launch) (hl0 : l.stackTraces = false) (A : Nat → Prop) (D : va_G) (k : Nat → ClassId) (q : Nat → Nat) (f : Nat → Nat → Int32) (pa : Nat → Option Nat) (v : Nat → Int32) (p0 p1 : Int32) (g_v_1 : v 1 = 1) (g_f_4_0 : f 4 0 = 0) (g_v_2 : v 2 = 1) (g_f_2_0 : f 2 0 = 0) (g_f_5_0 : f 5 0 = (-1))  :
    vx_Met l yX9_child (fz_ws yX9_child cX9_child 4 (some .int)) { frames := 24, cells := 2, slots := 12, locals := 320 } (va_Pc [.ref (q 31), .int p0, .int p1] (fz_PC A D (fz_tys k) (fz_WC k q f pa v))) (fz_QI D A (fun (_ : Unit) => fz_WC k q f pa v) (fun (r : Int32) (_ : Unit) => r = 7)) (fz_XC (fun E => (E = "java/lang/IndexOutOfBoundsException" ∧ True)) A) 2 12 A := by
  refine fz_ofX (by decide +kernel) (Nat.le_of_ble_eq_true rfl) ?_
  intro p e s m below meth c hx hb hr hml hown hlocks hts ht hA hP hK hD hG hS ls hl
  have hown : s.vm.findClass RX9 = some m.cls := hown
  have S0 : CallFix p m c cX9_child 4 s [.ref (q 31), .int p0, .int p1].toArray (fz_ws yX9_child cX9_child 4 (some .int)) RX9 := ⟨hx, hb, hml, hown, hts⟩
  have hl : lv_has ls 4 [(0, .ref (q 31)), (1, .int p0), (2, .int p1)] := hl
  refine lv_aload_n hx hb dX9_child_0 rfl (lv_at hl 0 rfl) ?_
  refine lv_iload_n hx hb dX9_child_1 rfl (lv_at hl 1 rfl) ?_
  refine fz_xVv (As := [.int p0]) (rest := []) S0 (c_reqNode l hl0 A D k q f pa v p0 g_v_1 g_f_4_0) (fz_cwV (C := RX9) 1 hts fm_16 fm_17 fm_18 fm_19 fm_20 rfl rfl ⟨by decide, by decide, by decide +kernel⟩ ⟨Nat.le_of_ble_eq_true rfl, Nat.le_of_ble_eq_true rfl⟩) (va_recv hK hP (ci := 13) (q0 := 31) rfl rfl) (fun _ h9 => h9) (fun a9 h9 => hA a9 (Nat.le_trans hS.1 h9)) hG hS hP hK hD rfl hl.1 rfl (Nat.le_of_ble_eq_true rfl) dX9_child_2 ⟨Nat.le_of_ble_eq_true rfl, Nat.le_of_ble_eq_true rfl⟩ ht hlocks (fun E hE => by obtain ⟨rfl, h9⟩ := hE; exact ⟨rfl, trivial⟩) ⟨Nat.le_of_ble_eq_true rfl, Nat.le_of_ble_eq_true rfl⟩ (fun u_1 H locs hw hz1 hk1 hP hS => ?_)
  have hP : va_P D vwCl (fz_WC k q f pa v) H := hP
  have hq_1 : p0 = 0 := hw
  obtain rfl : p0 = 0 := (fq_4 p0 hq_1)
  refine lv_aload_n hx hb dX9_child_5 rfl (lv_at hl 0 rfl) ?_
  refine va_get (D := D) (ci := 13) (v := .ref (q 0)) (C := RX9) (T := TX9) (N := 8) hx hb hts (fun w9 h9 => fz_m (fin_X9 w9 h9)) hown hK hP 31 rfl rfl 0 (by decide) (hts _ (fz_m fm_3)) (fun _ h9 => h9) rfl dX9_child_6 ?_
  refine va_get (D := D) (ci := 11) (v := .ref (q 1)) (C := RX7) (T := TX7) (N := 6) hx hb hts (fun w9 h9 => fz_m (fin_X7 w9 h9)) hown hK hP 0 rfl rfl 0 (by decide) (hts _ (fz_m fm_4)) (fun _ h9 => h9) rfl dX9_child_9 ?_
  refine lv_iload_n hx hb dX9_child_12 rfl (lv_at hl 1 rfl) ?_
  refine lv_iload_n hx hb dX9_child_13 rfl (lv_at hl 2 rfl) ?_
  refine fz_cVi (As := [.int 0, .int p1]) (rest := []) S0 (c_findChild l A D k q f pa v p1 g_v_2 g_f_2_0 g_f_5_0) (fz_cwV (C := RX8) 2 hts fm_21 fm_22 fm_23 fm_24 fm_9 rfl rfl ⟨by decide, by decide, by decide +kernel⟩ ⟨Nat.le_of_ble_eq_true rfl, Nat.le_of_ble_eq_true rfl⟩) (va_recv hK hP (ci := 12) (q0 := 1) rfl rfl) (fun _ h9 => h9) (fun a9 h9 => hA a9 (Nat.le_trans hS.1 h9)) hG hS hP hK hD rfl hl.1 rfl (Nat.le_of_ble_eq_true rfl) dX9_child_14 ⟨Nat.le_of_ble_eq_true rfl, Nat.le_of_ble_eq_true rfl⟩ (fun r_2 u_2 H locs hw hz1 hk1 hP hS => ?_)
  have hP : va_P D vwCl (fz_WC k q f pa v) H := hP
  obtain rfl : r_2 = (-1) := hw
  refine lv_istore_n (lv' := [(3, .int (-1)), (0, .ref (q 31)), (1, .int 0), (2, .int p1)]) hx hb dX9_child_17 rfl hl (by decide) rfl (fun ls hl => ?_)
  refine lv_iload_n hx hb dX9_child_18 rfl (lv_at hl 0 rfl) ?_
  refine lv_iconst (v := (-1)) hx hb dX9_child_19 (by decide) ?_
  refine lv_icmp_ne (tgt := 33) hx hb dX9_child_20 (by decide) (fun c_3 => absurd (by decide) c_3) (fun c_3 => ?_)
  exact fz_throw (cls := "java/lang/IndexOutOfBoundsException") (text := "no such child") (names := fz_EN) (ik := 161) (is := 163) (ic := 165) hx hb hl0 hown hts hG (fz_fit_165) ⟨fm_10, fm_11⟩ (by decide) fz_at_165 fz_ok_165 hS (hl.1.trans hml.symm) dX9_child_23 dX9_child_26 dX9_child_27 dX9_child_29 dX9_child_32 ht hlocks ⟨Nat.le_of_ble_eq_true rfl, Nat.le_of_ble_eq_true rfl, Nat.le_of_ble_eq_true rfl, Nat.le_of_ble_eq_true rfl⟩ ⟨rfl, trivial⟩ ⟨Nat.le_of_ble_eq_true rfl, Nat.le_of_ble_eq_true rfl⟩

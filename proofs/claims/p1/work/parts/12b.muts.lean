set_option maxHeartbeats 4000000 in
set_option maxRecDepth 100000 in
theorem c_openC (l : Launch) (A : Nat → Prop) (D : va_G) (k : Nat → ClassId) (q : Nat → Nat) (f : Nat → Nat → Int32) (pa : Nat → Option Nat) (v : Nat → Int32) (p0 : Int32) (g_v_3 : v 3 = 0) (g_v_4 : v 4 = 0)  :
    Met l yX0_open (fz_ws yX0_open cX0_open 3 (some .int)) { frames := 0, cells := 0, slots := 0, locals := 0 } (va_Pc [.ref (q 14), .int p0] (fz_PC A D (fz_tys k) (fz_WC k q f pa v))) (fz_QI D A (fun (_ : Unit) => ([] : va_W)) (fun (r : Int32) (_ : Unit) => r = 0)) 0 0 A := by
  refine fz_of (by decide +kernel) (Nat.le_of_ble_eq_true rfl) ?_
  intro p e s m below meth c hx hb hr hml hown hlocks hts hin hA hP hK hD hG hS ls hl
  have hown : s.vm.findClass RX0 = some m.cls := hown
  have S0 : CallFix p m c cX0_open 3 s [.ref (q 14), .int p0].toArray (fz_ws yX0_open cX0_open 3 (some .int)) RX0 := ⟨hx, hb, hml, hown, hts⟩
  have hl : lv_has ls 3 [(0, .ref (q 14)), (1, .int p0)] := hl
  refine lv_aload_n hx hb dX0_open_0 rfl (lv_at hl 0 rfl) ?_
  refine va_get (D := D) (ci := 4) (v := .int (v 3)) (C := RX0) (T := TX0) (N := 9) hx hb hts (fun w9 h9 => fz_m (fin_X0 w9 h9)) hown hK hP 14 rfl rfl 0 (by decide) (hts _ (fz_m fm_7)) (fun _ h9 => h9) rfl dX0_open_1 ?_
  refine fz_I (y := 0) g_v_3 ?_
  refine lv_istore_n (lv' := [(2, .int 0), (0, .ref (q 14)), (1, .int p0)]) hx hb dX0_open_4 rfl hl (by decide) rfl (fun ls hl => ?_)
  refine lv_aload_n hx hb dX0_open_5 rfl (lv_at hl 1 rfl) ?_
  refine va_get (D := D) (ci := 4) (v := .ref (q 15)) (C := RX0) (T := TX0) (N := 9) hx hb hts (fun w9 h9 => fz_m (fin_X0 w9 h9)) hown hK hP 14 rfl rfl 3 (by decide) (hts _ (fz_m fm_212)) (fun _ h9 => h9) rfl dX0_open_6 ?_
  refine lv_iload_n hx hb dX0_open_9 rfl (lv_at hl 0 rfl) ?_
  refine lv_iload_n hx hb dX0_open_10 rfl (lv_at hl 2 rfl) ?_
  refine va_iast hx hb hK hP hD hS 15 0 rfl rfl (fz_vin (by decide)) dX0_open_11 (fun H locs hP hD hS => ?_)
  have hP : va_P D vwCl (fz_WC k q (va_up f 15 (upd (f 15) 0 p0)) pa v) H := hP
  have hD : va_D A (fz_WC k q (va_up f 15 (upd (f 15) 0 p0)) pa v) := hD
  refine lv_aload_n hx hb dX0_open_12 rfl (lv_at hl 1 rfl) ?_
  refine lv_dup hx hb dX0_open_13 rfl ?_
  refine va_get (D := D) (ci := 4) (v := .int (v 3)) (C := RX0) (T := TX0) (N := 9) hx hb hts (fun w9 h9 => fz_m (fin_X0 w9 h9)) hown hK hP 14 rfl rfl 0 (by decide) (hts _ (fz_m fm_7)) (fun _ h9 => h9) rfl dX0_open_14 ?_
  refine fz_I (y := 0) g_v_3 ?_
  refine lv_iconst (v := 1) hx hb dX0_open_17 (by decide) ?_
  refine lv_iadd hx hb dX0_open_18 ?_
  refine fz_I (y := 1) (by decide) ?_
  refine va_put (D := D) (ci := 4) (v := .int 1) (ty := .int) (C := RX0) (T := TX0) (N := 9) hx hb hts (fun w9 h9 => fz_m (fin_X0 w9 h9)) tyX0 tyX0_ok nmX0 hown hK hP hD hS 14 rfl rfl 0 (by decide) (hts _ (fz_m fm_7)) (fun _ h9 => h9) rfl (by decide +kernel) rfl rfl (Nat.le_of_ble_eq_true rfl) dX0_open_19 (fun H locs hP hD hS => ?_)
  have hP : va_P D vwCl (fz_WC k q (va_up f 15 (upd (f 15) 0 p0)) pa (va_up v 3 1)) H := hP
  have hD : va_D A (fz_WC k q (va_up f 15 (upd (f 15) 0 p0)) pa (va_up v 3 1)) := hD
  refine lv_aload_n hx hb dX0_open_22 rfl (lv_at hl 1 rfl) ?_
  refine lv_dup hx hb dX0_open_23 rfl ?_
  refine va_get (D := D) (ci := 4) (v := .int ((va_up v 3 1) 4)) (C := RX0) (T := TX0) (N := 9) hx hb hts (fun w9 h9 => fz_m (fin_X0 w9 h9)) hown hK hP 14 rfl rfl 1 (by decide) (hts _ (fz_m fm_67)) (fun _ h9 => h9) rfl dX0_open_24 ?_
  refine fz_I (y := 0) g_v_4 ?_
  refine lv_iconst (v := 1) hx hb dX0_open_27 (by decide) ?_
  refine lv_iadd hx hb dX0_open_28 ?_
  refine fz_I (y := 1) (by decide) ?_
  refine va_put (D := D) (ci := 4) (v := .int 1) (ty := .int) (C := RX0) (T := TX0) (N := 9) hx hb hts (fun w9 h9 => fz_m (fin_X0 w9 h9)) tyX0 tyX0_ok nmX0 hown hK hP hD hS 14 rfl rfl 1 (by decide) (hts _ (fz_m fm_67)) (fun _ h9 => h9) rfl (by decide +kernel) rfl rfl (Nat.le_of_ble_eq_true rfl) dX0_open_29 (fun H locs hP hD hS => ?_)
  have hP : va_P D vwCl (fz_WC k q (va_up f 15 (upd (f 15) 0 p0)) pa (va_up (va_up v 3 1) 4 1)) H := hP
  have hD : va_D A (fz_WC k q (va_up f 15 (upd (f 15) 0 p0)) pa (va_up (va_up v 3 1) 4 1)) := hD
  refine lv_iload_n hx hb dX0_open_32 rfl (lv_at hl 0 rfl) ?_
  have hP : va_P D vwCl [] H := fz_nil
  exact fz_iret hx hb hr rfl hlocks hS dX0_open_33 () rfl hP (Nat.le_of_ble_eq_true rfl) (Nat.le_of_ble_eq_true rfl)

set_option maxHeartbeats 4000000 in
set_option maxRecDepth 100000 in
theorem c_appendI (l : Launch) (A : Nat → Prop) (D : va_G) (k : Nat → ClassId) (q : Nat → Nat) (f : Nat → Nat → Int32) (pa : Nat → Option Nat) (v : Nat → Int32) (p0 : Int32) (g_v_12 : v 12 = 0)  :
    Met l yX2_append (fz_ws yX2_append cX2_append 2 (some .int)) { frames := 0, cells := 0, slots := 0, locals := 0 } (va_Pc [.ref (q 34), .int p0] (fz_PC A D (fz_tys k) (fz_WC k q f pa v))) (fz_QI D A (fun (_ : Unit) => ([] : va_W)) (fun (r : Int32) (_ : Unit) => r = 1)) 0 0 A := by
  refine fz_of (by decide +kernel) (Nat.le_of_ble_eq_true rfl) ?_
  intro p e s m below meth c hx hb hr hml hown hlocks hts hin hA hP hK hD hG hS ls hl
  have hown : s.vm.findClass RX2 = some m.cls := hown
  have S0 : CallFix p m c cX2_append 2 s [.ref (q 34), .int p0].toArray (fz_ws yX2_append cX2_append 2 (some .int)) RX2 := ⟨hx, hb, hml, hown, hts⟩
  have hl : lv_has ls 2 [(0, .ref (q 34)), (1, .int p0)] := hl
  refine lv_aload_n hx hb dX2_append_0 rfl (lv_at hl 0 rfl) ?_
  refine va_get (D := D) (ci := 6) (v := .ref (q 36)) (C := RX2) (T := TX2) (N := 9) hx hb hts (fun w9 h9 => fz_m (fin_X2 w9 h9)) hown hK hP 34 rfl rfl 7 (by decide) (hts _ (fz_m fm_213)) (fun _ h9 => h9) rfl dX2_append_1 ?_
  refine lv_aload_n hx hb dX2_append_4 rfl (lv_at hl 0 rfl) ?_
  refine va_get (D := D) (ci := 6) (v := .int (v 12)) (C := RX2) (T := TX2) (N := 9) hx hb hts (fun w9 h9 => fz_m (fin_X2 w9 h9)) hown hK hP 34 rfl rfl 0 (by decide) (hts _ (fz_m fm_214)) (fun _ h9 => h9) rfl dX2_append_5 ?_
  refine fz_I (y := 0) g_v_12 ?_
  refine lv_iload_n hx hb dX2_append_8 rfl (lv_at hl 1 rfl) ?_
  refine va_cast hx hb hK hP hD hS 36 1 rfl rfl (fz_vin (by decide)) dX2_append_9 (fun H locs hP hD hS => ?_)
  have hP : va_P D vwCl (fz_WC k q (va_up f 36 (upd (f 36) 0 (vp_nar .char p0))) pa v) H := hP
  have hD : va_D A (fz_WC k q (va_up f 36 (upd (f 36) 0 (vp_nar .char p0))) pa v) := hD
  refine lv_aload_n hx hb dX2_append_10 rfl (lv_at hl 0 rfl) ?_
  refine lv_dup hx hb dX2_append_11 rfl ?_
  refine va_get (D := D) (ci := 6) (v := .int (v 12)) (C := RX2) (T := TX2) (N := 9) hx hb hts (fun w9 h9 => fz_m (fin_X2 w9 h9)) hown hK hP 34 rfl rfl 0 (by decide) (hts _ (fz_m fm_214)) (fun _ h9 => h9) rfl dX2_append_12 ?_
  refine fz_I (y := 0) g_v_12 ?_
  refine lv_iconst (v := 1) hx hb dX2_append_15 (by decide) ?_
  refine lv_iadd hx hb dX2_append_16 ?_
  refine fz_I (y := 1) (by decide) ?_
  refine va_put (D := D) (ci := 6) (v := .int 1) (ty := .int) (C := RX2) (T := TX2) (N := 9) hx hb hts (fun w9 h9 => fz_m (fin_X2 w9 h9)) tyX2 tyX2_ok nmX2 hown hK hP hD hS 34 rfl rfl 0 (by decide) (hts _ (fz_m fm_214)) (fun _ h9 => h9) rfl (by decide +kernel) rfl rfl (Nat.le_of_ble_eq_true rfl) dX2_append_17 (fun H locs hP hD hS => ?_)
  have hP : va_P D vwCl (fz_WC k q (va_up f 36 (upd (f 36) 0 (vp_nar .char p0))) pa (va_up v 12 1)) H := hP
  have hD : va_D A (fz_WC k q (va_up f 36 (upd (f 36) 0 (vp_nar .char p0))) pa (va_up v 12 1)) := hD
  refine lv_aload_n hx hb dX2_append_20 rfl (lv_at hl 0 rfl) ?_
  refine va_get (D := D) (ci := 6) (v := .int ((va_up v 12 1) 12)) (C := RX2) (T := TX2) (N := 9) hx hb hts (fun w9 h9 => fz_m (fin_X2 w9 h9)) hown hK hP 34 rfl rfl 0 (by decide) (hts _ (fz_m fm_214)) (fun _ h9 => h9) rfl dX2_append_21 ?_
  refine fz_I (y := 1) rfl ?_
  have hP : va_P D vwCl [] H := fz_nil
  exact fz_iret hx hb hr rfl hlocks hS dX2_append_24 () rfl hP (Nat.le_of_ble_eq_true rfl) (Nat.le_of_ble_eq_true rfl)

set_option maxHeartbeats 4000000 in
set_option maxRecDepth 100000 in
theorem c_digit (l : Launch) (A : Nat → Prop) (D : va_G) (k : Nat → ClassId) (q : Nat → Nat) (f : Nat → Nat → Int32) (pa : Nat → Option Nat) (v : Nat → Int32) (g_v_14 : v 14 = 0) (g_v_12 : v 12 = 0)  :
    Met l yX2_digit (fz_ws yX2_digit cX2_digit 1 (some .int)) { frames := 0, cells := 0, slots := 0, locals := 0 } (va_Pc [.ref (q 34)] (fz_PC A D (fz_tys k) (fz_WC k q f pa v))) (fz_QI D A (fun (_ : Unit) => fz_WC k q f pa v) (fun (r : Int32) (_ : Unit) => r = (-1))) 0 0 A := by
  refine fz_of (by decide +kernel) (Nat.le_of_ble_eq_true rfl) ?_
  intro p e s m below meth c hx hb hr hml hown hlocks hts hin hA hP hK hD hG hS ls hl
  have hown : s.vm.findClass RX2 = some m.cls := hown
  have S0 : CallFix p m c cX2_digit 1 s [.ref (q 34)].toArray (fz_ws yX2_digit cX2_digit 1 (some .int)) RX2 := ⟨hx, hb, hml, hown, hts⟩
  have hl : lv_has ls 1 [(0, .ref (q 34))] := hl
  refine lv_aload_n hx hb dX2_digit_0 rfl (lv_at hl 0 rfl) ?_
  refine va_get (D := D) (ci := 6) (v := .int (v 14)) (C := RX2) (T := TX2) (N := 9) hx hb hts (fun w9 h9 => fz_m (fin_X2 w9 h9)) hown hK hP 34 rfl rfl 8 (by decide) (hts _ (fz_m fm_215)) (fun _ h9 => h9) rfl dX2_digit_1 ?_
  refine fz_I (y := 0) g_v_14 ?_
  refine lv_aload_n hx hb dX2_digit_4 rfl (lv_at hl 0 rfl) ?_
  refine va_get (D := D) (ci := 6) (v := .int (v 12)) (C := RX2) (T := TX2) (N := 9) hx hb hts (fun w9 h9 => fz_m (fin_X2 w9 h9)) hown hK hP 34 rfl rfl 0 (by decide) (hts _ (fz_m fm_214)) (fun _ h9 => h9) rfl dX2_digit_5 ?_
  refine fz_I (y := 0) g_v_12 ?_
  refine lv_icmp_ge (tgt := 54) hx hb dX2_digit_8 (by decide) (fun c_1 => ?_) (fun c_1 => absurd (by decide) c_1)
  refine lv_iconst (v := (-1)) hx hb dX2_digit_54 (by decide) ?_
  exact fz_iret hx hb hr rfl hlocks hS dX2_digit_55 () rfl hP (Nat.le_of_ble_eq_true rfl) (Nat.le_of_ble_eq_true rfl)

set_option maxHeartbeats 4000000 in
set_option maxRecDepth 100000 in
theorem c_parseNode (l : Launch) (A : Nat → Prop) (D : va_G) (k : Nat → ClassId) (q : Nat → Nat) (f : Nat → Nat → Int32) (pa : Nat → Option Nat) (v : Nat → Int32) (g_v_14 : v 14 = 0) (g_v_12 : v 12 = 0)  :
    Met l yX2_parseNode (fz_ws yX2_parseNode cX2_parseNode 7 (some .boolean)) { frames := 12, cells := 0, slots := 0, locals := 160 } (va_Pc [.ref (q 34), .int (-1)] (fz_PC A D (fz_tys k) (fz_WC k q f pa v))) (fz_QI D A (fun (_ : Unit) => fz_WC k q f pa v) (fun (r : Int32) (_ : Unit) => r = 0)) 0 0 A := by
  refine fz_of (by decide +kernel) (Nat.le_of_ble_eq_true rfl) ?_
  intro p e s m below meth c hx hb hr hml hown hlocks hts hin hA hP hK hD hG hS ls hl
  have hown : s.vm.findClass RX2 = some m.cls := hown
  have S0 : CallFix p m c cX2_parseNode 7 s [.ref (q 34), .int (-1)].toArray (fz_ws yX2_parseNode cX2_parseNode 7 (some .boolean)) RX2 := ⟨hx, hb, hml, hown, hts⟩
  have hl : lv_has ls 7 [(0, .ref (q 34)), (1, .int (-1))] := hl
  refine lv_aload_n hx hb dX2_parseNode_0 rfl (lv_at hl 0 rfl) ?_
  refine fz_cVi (As := []) (rest := []) S0 (c_digit l A D k q f pa v g_v_14 g_v_12) (fz_cwV (C := RX2) 0 hts fm_216 fm_217 fm_218 fm_219 fm_220 rfl rfl ⟨by decide, by decide, by decide +kernel⟩ ⟨Nat.le_of_ble_eq_true rfl, Nat.le_of_ble_eq_true rfl⟩) (va_recv hK hP (ci := 6) (q0 := 34) rfl rfl) (fun _ h9 => h9) (fun a9 h9 => hA a9 (Nat.le_trans hS.1 h9)) hG hS hP hK hD rfl hl.1 rfl (Nat.le_of_ble_eq_true rfl) dX2_parseNode_1 ⟨Nat.le_of_ble_eq_true rfl, Nat.le_of_ble_eq_true rfl⟩ (fun r_1 u_1 H locs hw hz1 hk1 hP hS => ?_)
  have hP : va_P D vwCl (fz_WC k q f pa v) H := hP
  obtain rfl : r_1 = (-1) := hw
  refine lv_istore_n (lv' := [(2, .int (-1)), (0, .ref (q 34)), (1, .int (-1))]) hx hb dX2_parseNode_4 rfl hl (by decide) rfl (fun ls hl => ?_)
  refine lv_iload_n hx hb dX2_parseNode_5 rfl (lv_at hl 0 rfl) ?_
  refine lv_iconst (v := (-1)) hx hb dX2_parseNode_6 (by decide) ?_
  refine lv_icmp_eq (tgt := 15) hx hb dX2_parseNode_7 (by decide) (fun c_2 => ?_) (fun c_2 => absurd (by decide) c_2)
  refine lv_iconst (v := 0) hx hb dX2_parseNode_15 (by decide) ?_
  exact fz_iret hx hb hr rfl hlocks hS dX2_parseNode_16 () rfl hP (Nat.le_of_ble_eq_true rfl) (Nat.le_of_ble_eq_true rfl)

set_option maxHeartbeats 4000000 in
set_option maxRecDepth 100000 in
theorem c_parse (l : Launch) (A : Nat → Prop) (D : va_G) (k : Nat → ClassId) (q : Nat → Nat) (f : Nat → Nat → Int32) (pa : Nat → Option Nat) (v : Nat → Int32) (g_v_12 : v 12 = 0)  :
    Met l yX2_parse (fz_ws yX2_parse cX2_parse 3 (some .int)) { frames := 24, cells := 0, slots := 0, locals := 320 } (va_Pc [.ref (q 34)] (fz_PC A D (fz_tys k) (fz_WC k q f pa v))) (fz_QI D A (fun (_ : Unit) => fz_WC k q f pa (va_up (va_up v 13 0) 14 0)) (fun (r : Int32) (_ : Unit) => r = 0)) 0 0 A := by
  refine fz_of (by decide +kernel) (Nat.le_of_ble_eq_true rfl) ?_
  intro p e s m below meth c hx hb hr hml hown hlocks hts hin hA hP hK hD hG hS ls hl
  have hown : s.vm.findClass RX2 = some m.cls := hown
  have S0 : CallFix p m c cX2_parse 3 s [.ref (q 34)].toArray (fz_ws yX2_parse cX2_parse 3 (some .int)) RX2 := ⟨hx, hb, hml, hown, hts⟩
  have hl : lv_has ls 3 [(0, .ref (q 34))] := hl
  refine lv_aload_n hx hb dX2_parse_0 rfl (lv_at hl 0 rfl) ?_
  refine lv_iconst (v := 0) hx hb dX2_parse_1 (by decide) ?_
  refine va_put (D := D) (ci := 6) (v := .int 0) (ty := .int) (C := RX2) (T := TX2) (N := 9) hx hb hts (fun w9 h9 => fz_m (fin_X2 w9 h9)) tyX2 tyX2_ok nmX2 hown hK hP hD hS 34 rfl rfl 8 (by decide) (hts _ (fz_m fm_215)) (fun _ h9 => h9) rfl (by decide +kernel) rfl rfl (Nat.le_of_ble_eq_true rfl) dX2_parse_2 (fun H locs hP hD hS => ?_)
  have hP : va_P D vwCl (fz_WC k q f pa (va_up v 14 0)) H := hP
  have hD : va_D A (fz_WC k q f pa (va_up v 14 0)) := hD
  refine lv_aload_n hx hb dX2_parse_5 rfl (lv_at hl 0 rfl) ?_
  refine lv_iconst (v := 0) hx hb dX2_parse_6 (by decide) ?_
  refine va_put (D := D) (ci := 6) (v := .int 0) (ty := .int) (C := RX2) (T := TX2) (N := 9) hx hb hts (fun w9 h9 => fz_m (fin_X2 w9 h9)) tyX2 tyX2_ok nmX2 hown hK hP hD hS 34 rfl rfl 1 (by decide) (hts _ (fz_m fm_221)) (fun _ h9 => h9) rfl (by decide +kernel) rfl rfl (Nat.le_of_ble_eq_true rfl) dX2_parse_7 (fun H locs hP hD hS => ?_)
  have hP : va_P D vwCl (fz_WC k q f pa (va_up (va_up v 14 0) 13 0)) H := hP
  have hD : va_D A (fz_WC k q f pa (va_up (va_up v 14 0) 13 0)) := hD
  refine lv_iconst (v := (-1)) hx hb dX2_parse_10 (by decide) ?_
  refine lv_istore_n (lv' := [(1, .int (-1)), (0, .ref (q 34))]) hx hb dX2_parse_11 rfl hl (by decide) rfl (fun ls hl => ?_)
  refine lv_iconst (v := 0) hx hb dX2_parse_12 (by decide) ?_
  refine lv_istore_n (lv' := [(2, .int 0), (1, .int (-1)), (0, .ref (q 34))]) hx hb dX2_parse_13 rfl hl (by decide) rfl (fun ls hl => ?_)
  refine lv_iload_n hx hb dX2_parse_14 rfl (lv_at hl 0 rfl) ?_
  refine lv_bipush (v := 100) hx hb dX2_parse_15 (by decide) ?_
  refine lv_icmp_ge (tgt := 103) hx hb dX2_parse_17 (by decide) (fun c_1 => absurd c_1 (by decide)) (fun c_1 => ?_)
  refine lv_aload_n hx hb dX2_parse_20 rfl (lv_at hl 2 rfl) ?_
  refine lv_iload_n hx hb dX2_parse_21 rfl (lv_at hl 1 rfl) ?_
  refine fz_cVi (As := [.int (-1)]) (rest := []) S0 (c_parseNode l A D k q f pa (va_up (va_up v 14 0) 13 0) rfl g_v_12) (fz_cwV (C := RX2) 1 hts fm_222 fm_223 fm_224 fm_225 fm_220 rfl rfl ⟨by decide, by decide, by decide +kernel⟩ ⟨Nat.le_of_ble_eq_true rfl, Nat.le_of_ble_eq_true rfl⟩) (va_recv hK hP (ci := 6) (q0 := 34) rfl rfl) (fun _ h9 => h9) (fun a9 h9 => hA a9 (Nat.le_trans hS.1 h9)) hG hS hP hK hD rfl hl.1 rfl (Nat.le_of_ble_eq_true rfl) dX2_parse_22 ⟨Nat.le_of_ble_eq_true rfl, Nat.le_of_ble_eq_true rfl⟩ (fun r_2 u_2 H locs hw hz1 hk1 hP hS => ?_)
  have hP : va_P D vwCl (fz_WC k q f pa (va_up (va_up v 14 0) 13 0)) H := hP
  obtain rfl : r_2 = 0 := hw
  refine lv_if_ne (tgt := 33) hx hb dX2_parse_25 (by decide) (fun c_3 => absurd (by decide) c_3) (fun c_3 => ?_)
  refine lv_aload_n hx hb dX2_parse_28 rfl (lv_at hl 2 rfl) ?_
  refine va_get (D := D) (ci := 6) (v := .int ((va_up (va_up v 14 0) 13 0) 14)) (C := RX2) (T := TX2) (N := 9) hx hb hts (fun w9 h9 => fz_m (fin_X2 w9 h9)) hown hK hP 34 rfl rfl 8 (by decide) (hts _ (fz_m fm_215)) (fun _ h9 => h9) rfl dX2_parse_29 ?_
  refine fz_I (y := 0) rfl ?_
  exact fz_iret hx hb hr rfl hlocks hS dX2_parse_32 () rfl hP (Nat.le_of_ble_eq_true rfl) (Nat.le_of_ble_eq_true rfl)

set_option maxHeartbeats 4000000 in
set_option maxRecDepth 100000 in
theorem c_canEncode (l : Launch) (A : Nat → Prop) (D : va_G) (k : Nat → ClassId) (q : Nat → Nat) (f : Nat → Nat → Int32) (pa : Nat → Option Nat) (v : Nat → Int32)   :
    Met l yJ1_canEncode_fc78d (fz_ws yJ1_canEncode_fc78d cJ1_canEncode_fc78d 1 (some .boolean)) { frames := 0, cells := 0, slots := 0, locals := 0 } (va_Pc [.int 48] (fz_PC A D (fz_tys k) (fz_WC k q f pa v))) (fz_QI D A (fun (_ : Unit) => fz_WC k q f pa v) (fun (r : Int32) (_ : Unit) => r = 1)) 0 0 A := by
  refine fz_of (by decide +kernel) (Nat.le_of_ble_eq_true rfl) ?_
  intro p e s m below meth c hx hb hr hml hown hlocks hts hin hA hP hK hD hG hS ls hl
  have hown : s.vm.findClass RJ1 = some m.cls := hown
  have S0 : CallFix p m c cJ1_canEncode_fc78d 1 s [.int 48].toArray (fz_ws yJ1_canEncode_fc78d cJ1_canEncode_fc78d 1 (some .boolean)) RJ1 := ⟨hx, hb, hml, hown, hts⟩
  have hl : lv_has ls 1 [(0, .int 48)] := hl
  refine lv_iload_n hx hb dJ1_canEncode_fc78d_0 rfl (lv_at hl 0 rfl) ?_
  refine lv_sipush (v := 255) hx hb dJ1_canEncode_fc78d_1 (by decide) ?_
  refine lv_icmp_gt (tgt := 11) hx hb dJ1_canEncode_fc78d_4 (by decide) (fun c_1 => absurd c_1 (by decide)) (fun c_1 => ?_)
  refine lv_iconst (v := 1) hx hb dJ1_canEncode_fc78d_7 (by decide) ?_
  refine lv_goto (tgt := 12) hx hb dJ1_canEncode_fc78d_8 (by decide) ?_
  exact fz_iret hx hb hr rfl hlocks hS dJ1_canEncode_fc78d_12 () rfl hP (Nat.le_of_ble_eq_true rfl) (Nat.le_of_ble_eq_true rfl)

set_option maxHeartbeats 4000000 in
set_option maxRecDepth 100000 in
theorem c_isLatin1 (l : Launch) (A : Nat → Prop) (D : va_G) (k : Nat → ClassId) (q : Nat → Nat) (f : Nat → Nat → Int32) (pa : Nat → Option Nat) (v : Nat → Int32) (g_v_15 : v 15 = 0)  :
    Met l yJ5_isLatin1_aae02 (fz_ws yJ5_isLatin1_aae02 cJ5_isLatin1_aae02 1 (some .boolean)) { frames := 0, cells := 0, slots := 0, locals := 0 } (va_Pc [.ref (q 35)] (fz_PC A D (fz_tys k) (fz_WC k q f pa v))) (fz_QI D A (fun (_ : Unit) => fz_WC k q f pa v) (fun (r : Int32) (_ : Unit) => r = 1)) 0 0 A := by
  refine fz_of (by decide +kernel) (Nat.le_of_ble_eq_true rfl) ?_
  intro p e s m below meth c hx hb hr hml hown hlocks hts hin hA hP hK hD hG hS ls hl
  have hown : s.vm.findClass RJ5 = some m.cls := hown
  have S0 : CallFix p m c cJ5_isLatin1_aae02 1 s [.ref (q 35)].toArray (fz_ws yJ5_isLatin1_aae02 cJ5_isLatin1_aae02 1 (some .boolean)) RJ5 := ⟨hx, hb, hml, hown, hts⟩
  have hl : lv_has ls 1 [(0, .ref (q 35))] := hl
  refine va_gets (C := "java/lang/String") (n := "COMPACT_STRINGS") (d := "Z") (v := .int 1) hx hb hG.2.2.1 hS hown (hts _ (fz_m fm_226)) (fun _ h9 => h9) dJ5_isLatin1_aae02_0 ?_
  refine lv_if_eq (tgt := 17) hx hb dJ5_isLatin1_aae02_3 (by decide) (fun c_1 => absurd c_1 (by decide)) (fun c_1 => ?_)
  refine lv_aload_n hx hb dJ5_isLatin1_aae02_6 rfl (lv_at hl 0 rfl) ?_
  refine va_get (D := D) (ci := 1) (v := .int (v 15)) (C := RJ4) (T := TJ4) (N := 4) hx hb hts (fun w9 h9 => fz_m (fin_J4 w9 h9)) hown hK hP 35 rfl rfl 1 (by decide) (hts _ (fz_m fm_227)) (fun _ h9 => h9) rfl dJ5_isLatin1_aae02_7 ?_
  refine fz_I (y := 0) g_v_15 ?_
  refine lv_if_ne (tgt := 17) hx hb dJ5_isLatin1_aae02_10 (by decide) (fun c_2 => absurd (by decide) c_2) (fun c_2 => ?_)
  refine lv_iconst (v := 1) hx hb dJ5_isLatin1_aae02_13 (by decide) ?_
  refine lv_goto (tgt := 18) hx hb dJ5_isLatin1_aae02_14 (by decide) ?_
  exact fz_iret hx hb hr rfl hlocks hS dJ5_isLatin1_aae02_18 () rfl hP (Nat.le_of_ble_eq_true rfl) (Nat.le_of_ble_eq_true rfl)

set_option maxHeartbeats 4000000 in
set_option maxRecDepth 100000 in
theorem c_ensure0 (l : Launch) (A : Nat → Prop) (D : va_G) (k : Nat → ClassId) (q : Nat → Nat) (f : Nat → Nat → Int32) (pa : Nat → Option Nat) (v : Nat → Int32) (g_v_15 : v 15 = 0)  :
    Met l yJ5_ensureCapacityInternal_d00df (fz_ws yJ5_ensureCapacityInternal_d00df cJ5_ensureCapacityInternal_d00df 3 none) { frames := 0, cells := 0, slots := 0, locals := 0 } (va_Pc [.ref (q 35), .int 0] (fz_PC A D (fz_tys k) (fz_WC k q f pa v))) (fz_QV D A (fun (_ : Unit) => fz_WC k q f pa v) (fun (_ : Unit) => True)) 0 0 A := by
  refine fz_of (by decide +kernel) (Nat.le_of_ble_eq_true rfl) ?_
  intro p e s m below meth c hx hb hr hml hown hlocks hts hin hA hP hK hD hG hS ls hl
  have hown : s.vm.findClass RJ5 = some m.cls := hown
  have S0 : CallFix p m c cJ5_ensureCapacityInternal_d00df 3 s [.ref (q 35), .int 0].toArray (fz_ws yJ5_ensureCapacityInternal_d00df cJ5_ensureCapacityInternal_d00df 3 none) RJ5 := ⟨hx, hb, hml, hown, hts⟩
  have hl : lv_has ls 3 [(0, .ref (q 35)), (1, .int 0)] := hl
  refine lv_aload_n hx hb dJ5_ensureCapacityInternal_d00df_0 rfl (lv_at hl 0 rfl) ?_
  refine va_get (D := D) (ci := 1) (v := .ref (q 37)) (C := RJ4) (T := TJ4) (N := 4) hx hb hts (fun w9 h9 => fz_m (fin_J4 w9 h9)) hown hK hP 35 rfl rfl 0 (by decide) (hts _ (fz_m fm_228)) (fun _ h9 => h9) rfl dJ5_ensureCapacityInternal_d00df_1 ?_
  refine va_alen (v := 16) hx hb hK hP 37 2 rfl rfl rfl dJ5_ensureCapacityInternal_d00df_4 ?_
  refine lv_aload_n hx hb dJ5_ensureCapacityInternal_d00df_5 rfl (lv_at hl 0 rfl) ?_
  refine va_get (D := D) (ci := 1) (v := .int (v 15)) (C := RJ4) (T := TJ4) (N := 4) hx hb hts (fun w9 h9 => fz_m (fin_J4 w9 h9)) hown hK hP 35 rfl rfl 1 (by decide) (hts _ (fz_m fm_227)) (fun _ h9 => h9) rfl dJ5_ensureCapacityInternal_d00df_6 ?_
  refine fz_I (y := 0) g_v_15 ?_
  refine lv_ishr hx hb dJ5_ensureCapacityInternal_d00df_9 ?_
  refine fz_I (y := 16) (by decide) ?_
  refine lv_istore_n (lv' := [(2, .int 16), (0, .ref (q 35)), (1, .int 0)]) hx hb dJ5_ensureCapacityInternal_d00df_10 rfl hl (by decide) rfl (fun ls hl => ?_)
  refine lv_iload_n hx hb dJ5_ensureCapacityInternal_d00df_11 rfl (lv_at hl 2 rfl) ?_
  refine lv_iload_n hx hb dJ5_ensureCapacityInternal_d00df_12 rfl (lv_at hl 0 rfl) ?_
  refine lv_isub hx hb dJ5_ensureCapacityInternal_d00df_13 ?_
  refine fz_I (y := (-16)) (by decide) ?_
  refine lv_if_le (tgt := 38) hx hb dJ5_ensureCapacityInternal_d00df_14 (by decide) (fun c_1 => ?_) (fun c_1 => absurd (by decide) c_1)
  exact fz_vret hx hb hr hlocks hS dJ5_ensureCapacityInternal_d00df_38 () trivial hP (Nat.le_of_ble_eq_true rfl) (Nat.le_of_ble_eq_true rfl)

set_option maxHeartbeats 4000000 in
set_option maxRecDepth 100000 in
theorem c_ensure1 (l : Launch) (A : Nat → Prop) (D : va_G) (k : Nat → ClassId) (q : Nat → Nat) (f : Nat → Nat → Int32) (pa : Nat → Option Nat) (v : Nat → Int32) (g_v_15 : v 15 = 0)  :
    Met l yJ5_ensureCapacityInternal_d00df (fz_ws yJ5_ensureCapacityInternal_d00df cJ5_ensureCapacityInternal_d00df 3 none) { frames := 0, cells := 0, slots := 0, locals := 0 } (va_Pc [.ref (q 35), .int 1] (fz_PC A D (fz_tys k) (fz_WC k q f pa v))) (fz_QV D A (fun (_ : Unit) => fz_WC k q f pa v) (fun (_ : Unit) => True)) 0 0 A := by
  refine fz_of (by decide +kernel) (Nat.le_of_ble_eq_true rfl) ?_
  intro p e s m below meth c hx hb hr hml hown hlocks hts hin hA hP hK hD hG hS ls hl
  have hown : s.vm.findClass RJ5 = some m.cls := hown
  have S0 : CallFix p m c cJ5_ensureCapacityInternal_d00df 3 s [.ref (q 35), .int 1].toArray (fz_ws yJ5_ensureCapacityInternal_d00df cJ5_ensureCapacityInternal_d00df 3 none) RJ5 := ⟨hx, hb, hml, hown, hts⟩
  have hl : lv_has ls 3 [(0, .ref (q 35)), (1, .int 1)] := hl
  refine lv_aload_n hx hb dJ5_ensureCapacityInternal_d00df_0 rfl (lv_at hl 0 rfl) ?_
  refine va_get (D := D) (ci := 1) (v := .ref (q 37)) (C := RJ4) (T := TJ4) (N := 4) hx hb hts (fun w9 h9 => fz_m (fin_J4 w9 h9)) hown hK hP 35 rfl rfl 0 (by decide) (hts _ (fz_m fm_228)) (fun _ h9 => h9) rfl dJ5_ensureCapacityInternal_d00df_1 ?_
  refine va_alen (v := 16) hx hb hK hP 37 2 rfl rfl rfl dJ5_ensureCapacityInternal_d00df_4 ?_
  refine lv_aload_n hx hb dJ5_ensureCapacityInternal_d00df_5 rfl (lv_at hl 0 rfl) ?_
  refine va_get (D := D) (ci := 1) (v := .int (v 15)) (C := RJ4) (T := TJ4) (N := 4) hx hb hts (fun w9 h9 => fz_m (fin_J4 w9 h9)) hown hK hP 35 rfl rfl 1 (by decide) (hts _ (fz_m fm_227)) (fun _ h9 => h9) rfl dJ5_ensureCapacityInternal_d00df_6 ?_
  refine fz_I (y := 0) g_v_15 ?_
  refine lv_ishr hx hb dJ5_ensureCapacityInternal_d00df_9 ?_
  refine fz_I (y := 16) (by decide) ?_
  refine lv_istore_n (lv' := [(2, .int 16), (0, .ref (q 35)), (1, .int 1)]) hx hb dJ5_ensureCapacityInternal_d00df_10 rfl hl (by decide) rfl (fun ls hl => ?_)
  refine lv_iload_n hx hb dJ5_ensureCapacityInternal_d00df_11 rfl (lv_at hl 2 rfl) ?_
  refine lv_iload_n hx hb dJ5_ensureCapacityInternal_d00df_12 rfl (lv_at hl 0 rfl) ?_
  refine lv_isub hx hb dJ5_ensureCapacityInternal_d00df_13 ?_
  refine fz_I (y := (-15)) (by decide) ?_
  refine lv_if_le (tgt := 38) hx hb dJ5_ensureCapacityInternal_d00df_14 (by decide) (fun c_1 => ?_) (fun c_1 => absurd (by decide) c_1)
  exact fz_vret hx hb hr hlocks hS dJ5_ensureCapacityInternal_d00df_38 () trivial hP (Nat.le_of_ble_eq_true rfl) (Nat.le_of_ble_eq_true rfl)

set_option maxHeartbeats 4000000 in
set_option maxRecDepth 100000 in
theorem c_setLengthA (l : Launch) (A : Nat → Prop) (D : va_G) (k : Nat → ClassId) (q : Nat → Nat) (f : Nat → Nat → Int32) (pa : Nat → Option Nat) (v : Nat → Int32) (g_v_15 : v 15 = 0) (g_v_17 : v 17 = 0)  :
    Met l yJ5_setLength_d00df (fz_ws yJ5_setLength_d00df cJ5_setLength_d00df 2 none) { frames := 12, cells := 0, slots := 0, locals := 160 } (va_Pc [.ref (q 35), .int 0] (fz_PC A D (fz_tys k) (fz_WC k q f pa v))) (fz_QV D A (fun (_ : Unit) => fz_WC k q f pa (va_up v 17 0)) (fun (_ : Unit) => True)) 0 0 A := by
  refine fz_of (by decide +kernel) (Nat.le_of_ble_eq_true rfl) ?_
  intro p e s m below meth c hx hb hr hml hown hlocks hts hin hA hP hK hD hG hS ls hl
  have hown : s.vm.findClass RJ5 = some m.cls := hown
  have S0 : CallFix p m c cJ5_setLength_d00df 2 s [.ref (q 35), .int 0].toArray (fz_ws yJ5_setLength_d00df cJ5_setLength_d00df 2 none) RJ5 := ⟨hx, hb, hml, hown, hts⟩
  have hl : lv_has ls 2 [(0, .ref (q 35)), (1, .int 0)] := hl
  refine lv_iload_n hx hb dJ5_setLength_d00df_0 rfl (lv_at hl 1 rfl) ?_
  refine lv_if_ge (tgt := 13) hx hb dJ5_setLength_d00df_1 (by decide) (fun c_1 => ?_) (fun c_1 => absurd (by decide) c_1)
  refine lv_aload_n hx hb dJ5_setLength_d00df_13 rfl (lv_at hl 0 rfl) ?_
  refine lv_iload_n hx hb dJ5_setLength_d00df_14 rfl (lv_at hl 1 rfl) ?_
  refine fz_cVv (As := [.int 0]) (rest := []) S0 (c_ensure0 l A D k q f pa v g_v_15) (fz_cwVq (C := RJ4) 1 hts fm_229 fm_230 fm_233 (fz_selP ⟨by decide, by decide⟩ (hts _ (fz_m fm_231)) rfl (va_Nw.use rfl (hG.2.2.2.2.1 _ fm_232 rfl)) (hts _ (fz_m fm_233))) fm_79 rfl rfl ⟨by decide, by decide, by decide +kernel⟩ ⟨Nat.le_of_ble_eq_true rfl, Nat.le_of_ble_eq_true rfl⟩) (va_recv hK hP (ci := 1) (q0 := 35) rfl rfl) (fun _ h9 => h9) (fun a9 h9 => hA a9 (Nat.le_trans hS.1 h9)) hG hS hP hK hD rfl hl.1 rfl (Nat.le_of_ble_eq_true rfl) dJ5_setLength_d00df_15 ⟨Nat.le_of_ble_eq_true rfl, Nat.le_of_ble_eq_true rfl⟩ (fun u_2 H locs hw hz1 hk1 hP hS => ?_)
  have hP : va_P D vwCl (fz_WC k q f pa v) H := hP
  refine lv_aload_n hx hb dJ5_setLength_d00df_18 rfl (lv_at hl 0 rfl) ?_
  refine va_get (D := D) (ci := 1) (v := .int (v 17)) (C := RJ4) (T := TJ4) (N := 4) hx hb hts (fun w9 h9 => fz_m (fin_J4 w9 h9)) hown hK hP 35 rfl rfl 3 (by decide) (hts _ (fz_m fm_73)) (fun _ h9 => h9) rfl dJ5_setLength_d00df_19 ?_
  refine fz_I (y := 0) g_v_17 ?_
  refine lv_iload_n hx hb dJ5_setLength_d00df_22 rfl (lv_at hl 1 rfl) ?_
  refine lv_icmp_ge (tgt := 63) hx hb dJ5_setLength_d00df_23 (by decide) (fun c_3 => ?_) (fun c_3 => absurd (by decide) c_3)
  refine lv_aload_n hx hb dJ5_setLength_d00df_63 rfl (lv_at hl 0 rfl) ?_
  refine va_get (D := D) (ci := 1) (v := .int (v 17)) (C := RJ4) (T := TJ4) (N := 4) hx hb hts (fun w9 h9 => fz_m (fin_J4 w9 h9)) hown hK hP 35 rfl rfl 3 (by decide) (hts _ (fz_m fm_73)) (fun _ h9 => h9) rfl dJ5_setLength_d00df_64 ?_
  refine fz_I (y := 0) g_v_17 ?_
  refine lv_iload_n hx hb dJ5_setLength_d00df_67 rfl (lv_at hl 1 rfl) ?_
  refine lv_icmp_le (tgt := 76) hx hb dJ5_setLength_d00df_68 (by decide) (fun c_4 => ?_) (fun c_4 => absurd (by decide) c_4)
  refine lv_aload_n hx hb dJ5_setLength_d00df_76 rfl (lv_at hl 0 rfl) ?_
  refine lv_iload_n hx hb dJ5_setLength_d00df_77 rfl (lv_at hl 1 rfl) ?_
  refine va_put (D := D) (ci := 1) (v := .int 0) (ty := .int) (C := RJ4) (T := TJ4) (N := 4) hx hb hts (fun w9 h9 => fz_m (fin_J4 w9 h9)) tyJ4 tyJ4_ok nmJ4 hown hK hP hD hS 35 rfl rfl 3 (by decide) (hts _ (fz_m fm_73)) (fun _ h9 => h9) rfl (by decide +kernel) rfl rfl (Nat.le_of_ble_eq_true rfl) dJ5_setLength_d00df_78 (fun H locs hP hD hS => ?_)
  have hP : va_P D vwCl (fz_WC k q f pa (va_up v 17 0)) H := hP
  have hD : va_D A (fz_WC k q f pa (va_up v 17 0)) := hD
  exact fz_vret hx hb hr hlocks hS dJ5_setLength_d00df_81 () trivial hP (Nat.le_of_ble_eq_true rfl) (Nat.le_of_ble_eq_true rfl)

set_option maxHeartbeats 4000000 in
set_option maxRecDepth 100000 in
theorem c_setLength (l : Launch) (A : Nat → Prop) (D : va_G) (k : Nat → ClassId) (q : Nat → Nat) (f : Nat → Nat → Int32) (pa : Nat → Option Nat) (v : Nat → Int32) (g_v_15 : v 15 = 0) (g_v_17 : v 17 = 0)  :
    Met l yJ4_setLength_d00df (fz_ws yJ4_setLength_d00df cJ4_setLength_d00df 2 none) { frames := 24, cells := 0, slots := 0, locals := 320 } (va_Pc [.ref (q 35), .int 0] (fz_PC A D (fz_tys k) (fz_WC k q f pa v))) (fz_QV D A (fun (_ : Unit) => fz_WC k q f pa (va_up v 17 0)) (fun (_ : Unit) => True)) 0 0 A := by
  refine fz_of (by decide +kernel) (Nat.le_of_ble_eq_true rfl) ?_
  intro p e s m below meth c hx hb hr hml hown hlocks hts hin hA hP hK hD hG hS ls hl
  have hown : s.vm.findClass RJ4 = some m.cls := hown
  have S0 : CallFix p m c cJ4_setLength_d00df 2 s [.ref (q 35), .int 0].toArray (fz_ws yJ4_setLength_d00df cJ4_setLength_d00df 2 none) RJ4 := ⟨hx, hb, hml, hown, hts⟩
  have hl : lv_has ls 2 [(0, .ref (q 35)), (1, .int 0)] := hl
  refine lv_aload_n hx hb dJ4_setLength_d00df_0 rfl (lv_at hl 0 rfl) ?_
  refine lv_iload_n hx hb dJ4_setLength_d00df_1 rfl (lv_at hl 1 rfl) ?_
  refine fz_cUv (As := [.int 0]) (rest := []) S0 (c_setLengthA l A D k q f pa v g_v_15 g_v_17) (va_cwSU 1 hts (fz_gSU fm_234 fm_235 fm_236 fm_77 fm_237 fm_79) rfl rfl rfl ⟨by decide, by decide +kernel⟩ ⟨Nat.le_of_ble_eq_true rfl, Nat.le_of_ble_eq_true rfl⟩) (fz_at hK (ci := 1) rfl) (va_recv hK hP (ci := 1) (q0 := 35) rfl rfl) (fun _ h9 => h9) (fun a9 h9 => hA a9 (Nat.le_trans hS.1 h9)) hG hS hP hK hD rfl hl.1 rfl (Nat.le_of_ble_eq_true rfl) dJ4_setLength_d00df_2 ⟨Nat.le_of_ble_eq_true rfl, Nat.le_of_ble_eq_true rfl⟩ (fun u_1 H locs hw hz1 hk1 hP hS => ?_)
  have hP : va_P D vwCl (fz_WC k q f pa (va_up v 17 0)) H := hP
  have hD : va_D A (fz_WC k q f pa (va_up v 17 0)) := fz_Dsame hD rfl
  exact fz_vret hx hb hr hlocks hS dJ4_setLength_d00df_5 () trivial hP (Nat.le_of_ble_eq_true rfl) (Nat.le_of_ble_eq_true rfl)

set_option maxHeartbeats 4000000 in
set_option maxRecDepth 100000 in
theorem c_appendCA (l : Launch) (A : Nat → Prop) (D : va_G) (k : Nat → ClassId) (q : Nat → Nat) (f : Nat → Nat → Int32) (pa : Nat → Option Nat) (v : Nat → Int32) (g_v_17 : v 17 = 0) (g_v_15 : v 15 = 0)  :
    Met l yJ5_append_3fe6f (fz_ws yJ5_append_3fe6f cJ5_append_3fe6f 2 (some (.object "java/lang/AbstractStringBuilder"))) { frames := 12, cells := 0, slots := 0, locals := 160 } (va_Pc [.ref (q 35), .int 48] (fz_PC A D (fz_tys k) (fz_WC k q f pa v))) (fz_QR D A (fun (_ : Unit) => fz_WC k q (va_up f 37 (upd (f 37) 0 48)) pa (va_up v 17 1)) (q 35)) 0 0 A := by
  refine fz_of (by decide +kernel) (Nat.le_of_ble_eq_true rfl) ?_
  intro p e s m below meth c hx hb hr hml hown hlocks hts hin hA hP hK hD hG hS ls hl
  have hown : s.vm.findClass RJ5 = some m.cls := hown
  have S0 : CallFix p m c cJ5_append_3fe6f 2 s [.ref (q 35), .int 48].toArray (fz_ws yJ5_append_3fe6f cJ5_append_3fe6f 2 (some (.object "java/lang/AbstractStringBuilder"))) RJ5 := ⟨hx, hb, hml, hown, hts⟩
  have hl : lv_has ls 2 [(0, .ref (q 35)), (1, .int 48)] := hl
  refine lv_aload_n hx hb dJ5_append_3fe6f_0 rfl (lv_at hl 0 rfl) ?_
  refine lv_aload_n hx hb dJ5_append_3fe6f_1 rfl (lv_at hl 0 rfl) ?_
  refine va_get (D := D) (ci := 1) (v := .int (v 17)) (C := RJ4) (T := TJ4) (N := 4) hx hb hts (fun w9 h9 => fz_m (fin_J4 w9 h9)) hown hK hP 35 rfl rfl 3 (by decide) (hts _ (fz_m fm_73)) (fun _ h9 => h9) rfl dJ5_append_3fe6f_2 ?_
  refine fz_I (y := 0) g_v_17 ?_
  refine lv_iconst (v := 1) hx hb dJ5_append_3fe6f_5 (by decide) ?_
  refine lv_iadd hx hb dJ5_append_3fe6f_6 ?_
  refine fz_I (y := 1) (by decide) ?_
  refine fz_cVv (As := [.int 1]) (rest := []) S0 (c_ensure1 l A D k q f pa v g_v_15) (fz_cwVq (C := RJ4) 1 hts fm_229 fm_230 fm_233 (fz_selP ⟨by decide, by decide⟩ (hts _ (fz_m fm_231)) rfl (va_Nw.use rfl (hG.2.2.2.2.1 _ fm_232 rfl)) (hts _ (fz_m fm_233))) fm_79 rfl rfl ⟨by decide, by decide, by decide +kernel⟩ ⟨Nat.le_of_ble_eq_true rfl, Nat.le_of_ble_eq_true rfl⟩) (va_recv hK hP (ci := 1) (q0 := 35) rfl rfl) (fun _ h9 => h9) (fun a9 h9 => hA a9 (Nat.le_trans hS.1 h9)) hG hS hP hK hD rfl hl.1 rfl (Nat.le_of_ble_eq_true rfl) dJ5_append_3fe6f_7 ⟨Nat.le_of_ble_eq_true rfl, Nat.le_of_ble_eq_true rfl⟩ (fun u_1 H locs hw hz1 hk1 hP hS => ?_)
  have hP : va_P D vwCl (fz_WC k q f pa v) H := hP
  refine lv_aload_n hx hb dJ5_append_3fe6f_10 rfl (lv_at hl 0 rfl) ?_
  refine fz_cVi (As := []) (rest := []) S0 (c_isLatin1 l A D k q f pa v g_v_15) (fz_cwV (C := RJ4) 0 hts fm_238 fm_239 fm_240 fm_231 fm_79 rfl rfl ⟨by decide, by decide, by decide +kernel⟩ ⟨Nat.le_of_ble_eq_true rfl, Nat.le_of_ble_eq_true rfl⟩) (va_recv hK hP (ci := 1) (q0 := 35) rfl rfl) (fun _ h9 => h9) (fun a9 h9 => hA a9 (Nat.le_trans hS.1 h9)) hG hS hP hK hD rfl hl.1 rfl (Nat.le_of_ble_eq_true rfl) dJ5_append_3fe6f_11 ⟨Nat.le_of_ble_eq_true rfl, Nat.le_of_ble_eq_true rfl⟩ (fun r_2 u_2 H locs hw hz1 hk1 hP hS => ?_)
  have hP : va_P D vwCl (fz_WC k q f pa v) H := hP
  obtain rfl : r_2 = 1 := hw
  refine lv_if_eq (tgt := 45) hx hb dJ5_append_3fe6f_14 (by decide) (fun c_3 => absurd c_3 (by decide)) (fun c_3 => ?_)
  refine lv_iload_n hx hb dJ5_append_3fe6f_17 rfl (lv_at hl 1 rfl) ?_
  refine fz_cSi (As := [.int 48]) (rest := []) S0 (c_canEncode l A D k q f pa v ) (fz_cwS 1 hts fm_241 fm_242 fm_243 fm_244 rfl rfl ⟨by decide, by decide, by decide +kernel⟩ ⟨Nat.le_of_ble_eq_true rfl, Nat.le_of_ble_eq_true rfl⟩) (fun _ h9 => h9) (fun a9 h9 => hA a9 (Nat.le_trans hS.1 h9)) hG hS hP hK hD rfl hl.1 rfl (Nat.le_of_ble_eq_true rfl) dJ5_append_3fe6f_18 ⟨Nat.le_of_ble_eq_true rfl, Nat.le_of_ble_eq_true rfl⟩ (fun r_4 u_4 H locs hw hz1 hk1 hP hS => ?_)
  have hP : va_P D vwCl (fz_WC k q f pa v) H := hP
  obtain rfl : r_4 = 1 := hw
  refine lv_if_eq (tgt := 45) hx hb dJ5_append_3fe6f_21 (by decide) (fun c_5 => absurd c_5 (by decide)) (fun c_5 => ?_)
  refine lv_aload_n hx hb dJ5_append_3fe6f_24 rfl (lv_at hl 0 rfl) ?_
  refine va_get (D := D) (ci := 1) (v := .ref (q 37)) (C := RJ4) (T := TJ4) (N := 4) hx hb hts (fun w9 h9 => fz_m (fin_J4 w9 h9)) hown hK hP 35 rfl rfl 0 (by decide) (hts _ (fz_m fm_228)) (fun _ h9 => h9) rfl dJ5_append_3fe6f_25 ?_
  refine lv_aload_n hx hb dJ5_append_3fe6f_28 rfl (lv_at hl 0 rfl) ?_
  refine lv_dup hx hb dJ5_append_3fe6f_29 rfl ?_
  refine va_get (D := D) (ci := 1) (v := .int (v 17)) (C := RJ4) (T := TJ4) (N := 4) hx hb hts (fun w9 h9 => fz_m (fin_J4 w9 h9)) hown hK hP 35 rfl rfl 3 (by decide) (hts _ (fz_m fm_73)) (fun _ h9 => h9) rfl dJ5_append_3fe6f_30 ?_
  refine fz_I (y := 0) g_v_17 ?_
  refine lv_dup_x1 hx hb dJ5_append_3fe6f_33 rfl rfl ?_
  refine lv_iconst (v := 1) hx hb dJ5_append_3fe6f_34 (by decide) ?_
  refine lv_iadd hx hb dJ5_append_3fe6f_35 ?_
  refine fz_I (y := 1) (by decide) ?_
  refine va_put (D := D) (ci := 1) (v := .int 1) (ty := .int) (C := RJ4) (T := TJ4) (N := 4) hx hb hts (fun w9 h9 => fz_m (fin_J4 w9 h9)) tyJ4 tyJ4_ok nmJ4 hown hK hP hD hS 35 rfl rfl 3 (by decide) (hts _ (fz_m fm_73)) (fun _ h9 => h9) rfl (by decide +kernel) rfl rfl (Nat.le_of_ble_eq_true rfl) dJ5_append_3fe6f_36 (fun H locs hP hD hS => ?_)
  have hP : va_P D vwCl (fz_WC k q f pa (va_up v 17 1)) H := hP
  have hD : va_D A (fz_WC k q f pa (va_up v 17 1)) := hD
  refine lv_iload_n hx hb dJ5_append_3fe6f_39 rfl (lv_at hl 1 rfl) ?_
  refine lv_i2b (v := 48) hx hb dJ5_append_3fe6f_40 (by decide) ?_
  refine va_bast hx hb hK hP hD hS 37 2 rfl rfl (fz_vin (by decide)) dJ5_append_3fe6f_41 (fun H locs hP hD hS => ?_)
  have hP : va_P D vwCl (fz_WC k q (va_up f 37 (upd (f 37) 0 48)) pa (va_up v 17 1)) H := hP
  have hD : va_D A (fz_WC k q (va_up f 37 (upd (f 37) 0 48)) pa (va_up v 17 1)) := hD
  refine lv_goto (tgt := 75) hx hb dJ5_append_3fe6f_42 (by decide) ?_
  refine lv_aload_n hx hb dJ5_append_3fe6f_75 rfl (lv_at hl 0 rfl) ?_
  exact fz_rret hx hb hr (Or.inl ⟨_, rfl⟩) hlocks hS dJ5_append_3fe6f_76 () hP (Nat.le_of_ble_eq_true rfl) (Nat.le_of_ble_eq_true rfl)

set_option maxHeartbeats 4000000 in
set_option maxRecDepth 100000 in
theorem c_appendC (l : Launch) (A : Nat → Prop) (D : va_G) (k : Nat → ClassId) (q : Nat → Nat) (f : Nat → Nat → Int32) (pa : Nat → Option Nat) (v : Nat → Int32) (g_v_17 : v 17 = 0) (g_v_15 : v 15 = 0)  :
    Met l yJ4_append_cf468 (fz_ws yJ4_append_cf468 cJ4_append_cf468 2 (some (.object "java/lang/StringBuilder"))) { frames := 24, cells := 0, slots := 0, locals := 320 } (va_Pc [.ref (q 35), .int 48] (fz_PC A D (fz_tys k) (fz_WC k q f pa v))) (fz_QR D A (fun (_ : Unit) => fz_WC k q (va_up f 37 (upd (f 37) 0 48)) pa (va_up v 17 1)) (q 35)) 0 0 A := by
  refine fz_of (by decide +kernel) (Nat.le_of_ble_eq_true rfl) ?_
  intro p e s m below meth c hx hb hr hml hown hlocks hts hin hA hP hK hD hG hS ls hl
  have hown : s.vm.findClass RJ4 = some m.cls := hown
  have S0 : CallFix p m c cJ4_append_cf468 2 s [.ref (q 35), .int 48].toArray (fz_ws yJ4_append_cf468 cJ4_append_cf468 2 (some (.object "java/lang/StringBuilder"))) RJ4 := ⟨hx, hb, hml, hown, hts⟩
  have hl : lv_has ls 2 [(0, .ref (q 35)), (1, .int 48)] := hl
  refine lv_aload_n hx hb dJ4_append_cf468_0 rfl (lv_at hl 0 rfl) ?_
  refine lv_iload_n hx hb dJ4_append_cf468_1 rfl (lv_at hl 1 rfl) ?_
  refine fz_cUr (As := [.int 48]) (rest := []) S0 (c_appendCA l A D k q f pa v g_v_17 g_v_15) (va_cwSU 1 hts (fz_gSU fm_245 fm_246 fm_247 fm_77 fm_248 fm_79) rfl rfl rfl ⟨by decide, by decide +kernel⟩ ⟨Nat.le_of_ble_eq_true rfl, Nat.le_of_ble_eq_true rfl⟩) (fz_at hK (ci := 1) rfl) (va_recv hK hP (ci := 1) (q0 := 35) rfl rfl) (fun _ h9 => h9) (fun a9 h9 => hA a9 (Nat.le_trans hS.1 h9)) hG hS hP hK hD rfl hl.1 rfl (Nat.le_of_ble_eq_true rfl) dJ4_append_cf468_2 ⟨Nat.le_of_ble_eq_true rfl, Nat.le_of_ble_eq_true rfl⟩ (fun u_1 H locs hw hz1 hk1 hP hS => ?_)
  have hP : va_P D vwCl (fz_WC k q (va_up f 37 (upd (f 37) 0 48)) pa (va_up v 17 1)) H := hP
  have hD : va_D A (fz_WC k q (va_up f 37 (upd (f 37) 0 48)) pa (va_up v 17 1)) := fz_Dsame hD rfl
  refine lv_pop hx hb dJ4_append_cf468_5 rfl ?_
  refine lv_aload_n hx hb dJ4_append_cf468_6 rfl (lv_at hl 0 rfl) ?_
  exact fz_rret hx hb hr (Or.inl ⟨_, rfl⟩) hlocks hS dJ4_append_cf468_7 () hP (Nat.le_of_ble_eq_true rfl) (Nat.le_of_ble_eq_true rfl)

set_option maxHeartbeats 4000000 in
set_option maxRecDepth 100000 in
theorem c_lenA1 (l : Launch) (A : Nat → Prop) (D : va_G) (k : Nat → ClassId) (q : Nat → Nat) (f : Nat → Nat → Int32) (pa : Nat → Option Nat) (v : Nat → Int32) (g_v_17 : v 17 = 1)  :
    Met l yJ5_length_8abf5 (fz_ws yJ5_length_8abf5 cJ5_length_8abf5 1 (some .int)) { frames := 0, cells := 0, slots := 0, locals := 0 } (va_Pc [.ref (q 35)] (fz_PC A D (fz_tys k) (fz_WC k q f pa v))) (fz_QI D A (fun (_ : Unit) => fz_WC k q f pa v) (fun (r : Int32) (_ : Unit) => r = 1)) 0 0 A := by
  refine fz_of (by decide +kernel) (Nat.le_of_ble_eq_true rfl) ?_
  intro p e s m below meth c hx hb hr hml hown hlocks hts hin hA hP hK hD hG hS ls hl
  have hown : s.vm.findClass RJ5 = some m.cls := hown
  have S0 : CallFix p m c cJ5_length_8abf5 1 s [.ref (q 35)].toArray (fz_ws yJ5_length_8abf5 cJ5_length_8abf5 1 (some .int)) RJ5 := ⟨hx, hb, hml, hown, hts⟩
  have hl : lv_has ls 1 [(0, .ref (q 35))] := hl
  refine lv_aload_n hx hb dJ5_length_8abf5_0 rfl (lv_at hl 0 rfl) ?_
  refine va_get (D := D) (ci := 1) (v := .int (v 17)) (C := RJ4) (T := TJ4) (N := 4) hx hb hts (fun w9 h9 => fz_m (fin_J4 w9 h9)) hown hK hP 35 rfl rfl 3 (by decide) (hts _ (fz_m fm_73)) (fun _ h9 => h9) rfl dJ5_length_8abf5_1 ?_
  refine fz_I (y := 1) g_v_17 ?_
  exact fz_iret hx hb hr rfl hlocks hS dJ5_length_8abf5_4 () rfl hP (Nat.le_of_ble_eq_true rfl) (Nat.le_of_ble_eq_true rfl)

set_option maxHeartbeats 4000000 in
set_option maxRecDepth 100000 in
theorem c_len1 (l : Launch) (A : Nat → Prop) (D : va_G) (k : Nat → ClassId) (q : Nat → Nat) (f : Nat → Nat → Int32) (pa : Nat → Option Nat) (v : Nat → Int32) (g_v_17 : v 17 = 1)  :
    Met l yJ4_length_8abf5 (fz_ws yJ4_length_8abf5 cJ4_length_8abf5 1 (some .int)) { frames := 12, cells := 0, slots := 0, locals := 160 } (va_Pc [.ref (q 35)] (fz_PC A D (fz_tys k) (fz_WC k q f pa v))) (fz_QI D A (fun (_ : Unit) => fz_WC k q f pa v) (fun (r : Int32) (_ : Unit) => r = 1)) 0 0 A := by
  refine fz_of (by decide +kernel) (Nat.le_of_ble_eq_true rfl) ?_
  intro p e s m below meth c hx hb hr hml hown hlocks hts hin hA hP hK hD hG hS ls hl
  have hown : s.vm.findClass RJ4 = some m.cls := hown
  have S0 : CallFix p m c cJ4_length_8abf5 1 s [.ref (q 35)].toArray (fz_ws yJ4_length_8abf5 cJ4_length_8abf5 1 (some .int)) RJ4 := ⟨hx, hb, hml, hown, hts⟩
  have hl : lv_has ls 1 [(0, .ref (q 35))] := hl
  refine lv_aload_n hx hb dJ4_length_8abf5_0 rfl (lv_at hl 0 rfl) ?_
  refine fz_cUi (As := []) (rest := []) S0 (c_lenA1 l A D k q f pa v g_v_17) (va_cwSU 0 hts (fz_gSU fm_74 fm_75 fm_76 fm_77 fm_78 fm_79) rfl rfl rfl ⟨by decide, by decide +kernel⟩ ⟨Nat.le_of_ble_eq_true rfl, Nat.le_of_ble_eq_true rfl⟩) (fz_at hK (ci := 1) rfl) (va_recv hK hP (ci := 1) (q0 := 35) rfl rfl) (fun _ h9 => h9) (fun a9 h9 => hA a9 (Nat.le_trans hS.1 h9)) hG hS hP hK hD rfl hl.1 rfl (Nat.le_of_ble_eq_true rfl) dJ4_length_8abf5_1 ⟨Nat.le_of_ble_eq_true rfl, Nat.le_of_ble_eq_true rfl⟩ (fun r_1 u_1 H locs hw hz1 hk1 hP hS => ?_)
  have hP : va_P D vwCl (fz_WC k q f pa v) H := hP
  obtain rfl : r_1 = 1 := hw
  exact fz_iret hx hb hr rfl hlocks hS dJ4_length_8abf5_4 () rfl hP (Nat.le_of_ble_eq_true rfl) (Nat.le_of_ble_eq_true rfl)

set_option maxHeartbeats 4000000 in
set_option maxRecDepth 100000 in
theorem c_appendNode (l : Launch) (A : Nat → Prop) (D : va_G) (k : Nat → ClassId) (q : Nat → Nat) (f : Nat → Nat → Int32) (pa : Nat → Option Nat) (v : Nat → Int32) (g_f_4_0 : f 4 0 = 0) (g_v_17 : v 17 = 0) (g_v_15 : v 15 = 0) (g_f_7_0 : f 7 0 = 0) (g_f_8_0 : f 8 0 = (-1))  :
    Met l yX9_appendNode (fz_ws yX9_appendNode cX9_appendNode 2 none) { frames := 36, cells := 0, slots := 0, locals := 480 } (va_Pc [.ref (q 31), .int 0] (fz_PC A D (fz_tys k) (fz_WC k q f pa v))) (fz_QV D A (fun (_ : Unit) => fz_WC k q (va_up f 37 (upd (f 37) 0 48)) pa (va_up v 17 1)) (fun (_ : Unit) => True)) 0 0 A := by
  refine fz_of (by decide +kernel) (Nat.le_of_ble_eq_true rfl) ?_
  intro p e s m below meth c hx hb hr hml hown hlocks hts hin hA hP hK hD hG hS ls hl
  have hown : s.vm.findClass RX9 = some m.cls := hown
  have S0 : CallFix p m c cX9_appendNode 2 s [.ref (q 31), .int 0].toArray (fz_ws yX9_appendNode cX9_appendNode 2 none) RX9 := ⟨hx, hb, hml, hown, hts⟩
  have hl : lv_has ls 2 [(0, .ref (q 31)), (1, .int 0)] := hl
  refine lv_aload_n hx hb dX9_appendNode_0 rfl (lv_at hl 0 rfl) ?_
  refine va_get (D := D) (ci := 13) (v := .ref (q 35)) (C := RX9) (T := TX9) (N := 8) hx hb hts (fun w9 h9 => fz_m (fin_X9 w9 h9)) hown hK hP 31 rfl rfl 7 (by decide) (hts _ (fz_m fm_202)) (fun _ h9 => h9) rfl dX9_appendNode_1 ?_
  refine lv_bipush (v := 48) hx hb dX9_appendNode_4 (by decide) ?_
  refine lv_aload_n hx hb dX9_appendNode_6 rfl (lv_at hl 0 rfl) ?_
  refine va_get (D := D) (ci := 13) (v := .ref (q 0)) (C := RX9) (T := TX9) (N := 8) hx hb hts (fun w9 h9 => fz_m (fin_X9 w9 h9)) hown hK hP 31 rfl rfl 0 (by decide) (hts _ (fz_m fm_9)) (fun _ h9 => h9) rfl dX9_appendNode_7 ?_
  refine va_get (D := D) (ci := 11) (v := .ref (q 1)) (C := RX7) (T := TX7) (N := 6) hx hb hts (fun w9 h9 => fz_m (fin_X7 w9 h9)) hown hK hP 0 rfl rfl 0 (by decide) (hts _ (fz_m fm_10)) (fun _ h9 => h9) rfl dX9_appendNode_10 ?_
  refine va_get (D := D) (ci := 12) (v := .ref (q 4)) (C := RX8) (T := TX8) (N := 10) hx hb hts (fun w9 h9 => fz_m (fin_X8 w9 h9)) hown hK hP 1 rfl rfl 4 (by decide) (hts _ (fz_m fm_104)) (fun _ h9 => h9) rfl dX9_appendNode_13 ?_
  refine lv_iload_n hx hb dX9_appendNode_16 rfl (lv_at hl 1 rfl) ?_
  refine va_iald hx hb hK hP 4 0 rfl rfl (fz_vin (by decide)) dX9_appendNode_17 ?_
  refine fz_I (y := 0) g_f_4_0 ?_
  refine lv_iadd hx hb dX9_appendNode_18 ?_
  refine fz_I (y := 48) (by decide) ?_
  refine lv_i2c (v := 48) hx hb dX9_appendNode_19 (by decide) ?_
  refine fz_cVr (As := [.int 48]) (rest := []) S0 (c_appendC l A D k q f pa v g_v_17 g_v_15) (fz_cwV (C := RJ4) 1 hts fm_249 fm_250 fm_251 fm_252 fm_207 rfl rfl ⟨by decide, by decide, by decide +kernel⟩ ⟨Nat.le_of_ble_eq_true rfl, Nat.le_of_ble_eq_true rfl⟩) (va_recv hK hP (ci := 1) (q0 := 35) rfl rfl) (fun _ h9 => h9) (fun a9 h9 => hA a9 (Nat.le_trans hS.1 h9)) hG hS hP hK hD rfl hl.1 rfl (Nat.le_of_ble_eq_true rfl) dX9_appendNode_20 ⟨Nat.le_of_ble_eq_true rfl, Nat.le_of_ble_eq_true rfl⟩ (fun u_1 H locs hw hz1 hk1 hP hS => ?_)
  have hP : va_P D vwCl (fz_WC k q (va_up f 37 (upd (f 37) 0 48)) pa (va_up v 17 1)) H := hP
  have hD : va_D A (fz_WC k q (va_up f 37 (upd (f 37) 0 48)) pa (va_up v 17 1)) := fz_Dsame hD rfl
  refine lv_pop hx hb dX9_appendNode_23 rfl ?_
  refine lv_aload_n hx hb dX9_appendNode_24 rfl (lv_at hl 0 rfl) ?_
  refine va_get (D := D) (ci := 13) (v := .ref (q 0)) (C := RX9) (T := TX9) (N := 8) hx hb hts (fun w9 h9 => fz_m (fin_X9 w9 h9)) hown hK hP 31 rfl rfl 0 (by decide) (hts _ (fz_m fm_9)) (fun _ h9 => h9) rfl dX9_appendNode_25 ?_
  refine va_get (D := D) (ci := 11) (v := .ref (q 1)) (C := RX7) (T := TX7) (N := 6) hx hb hts (fun w9 h9 => fz_m (fin_X7 w9 h9)) hown hK hP 0 rfl rfl 0 (by decide) (hts _ (fz_m fm_10)) (fun _ h9 => h9) rfl dX9_appendNode_28 ?_
  refine va_get (D := D) (ci := 12) (v := .ref (q 7)) (C := RX8) (T := TX8) (N := 10) hx hb hts (fun w9 h9 => fz_m (fin_X8 w9 h9)) hown hK hP 1 rfl rfl 7 (by decide) (hts _ (fz_m fm_18)) (fun _ h9 => h9) rfl dX9_appendNode_31 ?_
  refine lv_iload_n hx hb dX9_appendNode_34 rfl (lv_at hl 1 rfl) ?_
  refine va_iald hx hb hK hP 7 0 rfl rfl (fz_vin (by decide)) dX9_appendNode_35 ?_
  refine fz_I (y := 0) g_f_7_0 ?_
  refine lv_if_le (tgt := 64) hx hb dX9_appendNode_36 (by decide) (fun c_2 => ?_) (fun c_2 => absurd (by decide) c_2)
  refine lv_aload_n hx hb dX9_appendNode_64 rfl (lv_at hl 0 rfl) ?_
  refine va_get (D := D) (ci := 13) (v := .ref (q 0)) (C := RX9) (T := TX9) (N := 8) hx hb hts (fun w9 h9 => fz_m (fin_X9 w9 h9)) hown hK hP 31 rfl rfl 0 (by decide) (hts _ (fz_m fm_9)) (fun _ h9 => h9) rfl dX9_appendNode_65 ?_
  refine va_get (D := D) (ci := 11) (v := .ref (q 1)) (C := RX7) (T := TX7) (N := 6) hx hb hts (fun w9 h9 => fz_m (fin_X7 w9 h9)) hown hK hP 0 rfl rfl 0 (by decide) (hts _ (fz_m fm_10)) (fun _ h9 => h9) rfl dX9_appendNode_68 ?_
  refine va_get (D := D) (ci := 12) (v := .ref (q 8)) (C := RX8) (T := TX8) (N := 10) hx hb hts (fun w9 h9 => fz_m (fin_X8 w9 h9)) hown hK hP 1 rfl rfl 8 (by decide) (hts _ (fz_m fm_109)) (fun _ h9 => h9) rfl dX9_appendNode_71 ?_
  refine lv_iload_n hx hb dX9_appendNode_74 rfl (lv_at hl 1 rfl) ?_
  refine va_iald hx hb hK hP 8 0 rfl rfl (fz_vin (by decide)) dX9_appendNode_75 ?_
  refine fz_I (y := (-1)) g_f_8_0 ?_
  refine lv_iconst (v := (-1)) hx hb dX9_appendNode_76 (by decide) ?_
  refine lv_icmp_eq (tgt := 125) hx hb dX9_appendNode_77 (by decide) (fun c_3 => ?_) (fun c_3 => absurd (by decide) c_3)
  exact fz_vret hx hb hr hlocks hS dX9_appendNode_125 () trivial hP (Nat.le_of_ble_eq_true rfl) (Nat.le_of_ble_eq_true rfl)

set_option maxHeartbeats 4000000 in
set_option maxRecDepth 100000 in
theorem c_appendLink (l : Launch) (A : Nat → Prop) (D : va_G) (k : Nat → ClassId) (q : Nat → Nat) (f : Nat → Nat → Int32) (pa : Nat → Option Nat) (v : Nat → Int32)   :
    Met l yX9_appendLink (fz_ws yX9_appendLink cX9_appendLink 5 none) { frames := 0, cells := 0, slots := 0, locals := 0 } (va_Pc [.ref (q 31), .int 0, .int 0, .int 0] (fz_PC A D (fz_tys k) (fz_WC k q f pa v))) (fz_QV D A (fun (_ : Unit) => fz_WC k q f pa v) (fun (_ : Unit) => True)) 0 0 A := by
  refine fz_of (by decide +kernel) (Nat.le_of_ble_eq_true rfl) ?_
  intro p e s m below meth c hx hb hr hml hown hlocks hts hin hA hP hK hD hG hS ls hl
  have hown : s.vm.findClass RX9 = some m.cls := hown
  have S0 : CallFix p m c cX9_appendLink 5 s [.ref (q 31), .int 0, .int 0, .int 0].toArray (fz_ws yX9_appendLink cX9_appendLink 5 none) RX9 := ⟨hx, hb, hml, hown, hts⟩
  have hl : lv_has ls 5 [(0, .ref (q 31)), (1, .int 0), (2, .int 0), (3, .int 0)] := hl
  refine lv_iload_n hx hb dX9_appendLink_0 rfl (lv_at hl 2 rfl) ?_
  refine lv_iload_n hx hb dX9_appendLink_1 rfl (lv_at hl 1 rfl) ?_
  refine lv_icmp_le (tgt := 16) hx hb dX9_appendLink_2 (by decide) (fun c_1 => ?_) (fun c_1 => absurd (by decide) c_1)
  refine lv_iload_n hx hb dX9_appendLink_16 rfl (lv_at hl 2 rfl) ?_
  refine lv_istore (lv' := [(4, .int 0), (0, .ref (q 31)), (1, .int 0), (2, .int 0), (3, .int 0)]) hx hb dX9_appendLink_17 hl (by decide) rfl (fun ls hl => ?_)
  refine lv_iload hx hb dX9_appendLink_19 (lv_at hl 0 rfl) ?_
  refine lv_iload_n hx hb dX9_appendLink_21 rfl (lv_at hl 2 rfl) ?_
  refine lv_icmp_ge (tgt := 41) hx hb dX9_appendLink_22 (by decide) (fun c_2 => ?_) (fun c_2 => absurd (by decide) c_2)
  refine lv_iload_n hx hb dX9_appendLink_41 rfl (lv_at hl 4 rfl) ?_
  refine lv_if_eq (tgt := 55) hx hb dX9_appendLink_42 (by decide) (fun c_3 => ?_) (fun c_3 => absurd (by decide) c_3)
  exact fz_vret hx hb hr hlocks hS dX9_appendLink_55 () trivial hP (Nat.le_of_ble_eq_true rfl) (Nat.le_of_ble_eq_true rfl)

set_option maxHeartbeats 4000000 in
set_option maxRecDepth 100000 in
theorem c_widen (l : Launch) (A : Nat → Prop) (D : va_G) (k : Nat → ClassId) (q : Nat → Nat) (f : Nat → Nat → Int32) (pa : Nat → Option Nat) (v : Nat → Int32) (g_f_6_0 : f 6 0 = 0) (g_f_5_0 : f 5 0 = (-1))  :
    Met l yX8_widen (fz_ws yX8_widen cX8_widen 5 none) { frames := 0, cells := 0, slots := 0, locals := 0 } (va_Pc [.ref (q 1), .int 0, .int 1] (fz_PC A D (fz_tys k) (fz_WC k q f pa v))) (fz_QV D A (fun (_ : Unit) => ([] : va_W)) (fun (_ : Unit) => True)) 0 0 A := by
  refine fz_of (by decide +kernel) (Nat.le_of_ble_eq_true rfl) ?_
  intro p e s m below meth c hx hb hr hml hown hlocks hts hin hA hP hK hD hG hS ls hl
  have hown : s.vm.findClass RX8 = some m.cls := hown
  have S0 : CallFix p m c cX8_widen 5 s [.ref (q 1), .int 0, .int 1].toArray (fz_ws yX8_widen cX8_widen 5 none) RX8 := ⟨hx, hb, hml, hown, hts⟩
  have hl : lv_has ls 5 [(0, .ref (q 1)), (1, .int 0), (2, .int 1)] := hl
  refine lv_iload_n hx hb dX8_widen_0 rfl (lv_at hl 1 rfl) ?_
  refine lv_istore_n (lv' := [(3, .int 0), (0, .ref (q 1)), (1, .int 0), (2, .int 1)]) hx hb dX8_widen_1 rfl hl (by decide) rfl (fun ls hl => ?_)
  refine lv_iconst (v := 0) hx hb dX8_widen_2 (by decide) ?_
  refine lv_istore (lv' := [(4, .int 0), (3, .int 0), (0, .ref (q 1)), (1, .int 0), (2, .int 1)]) hx hb dX8_widen_3 hl (by decide) rfl (fun ls hl => ?_)
  refine lv_iload hx hb dX8_widen_5 (lv_at hl 0 rfl) ?_
  refine lv_iconst (v := 3) hx hb dX8_widen_7 (by decide) ?_
  refine lv_icmp_gt (tgt := 39) hx hb dX8_widen_8 (by decide) (fun c_1 => absurd c_1 (by decide)) (fun c_1 => ?_)
  refine lv_iload_n hx hb dX8_widen_11 rfl (lv_at hl 1 rfl) ?_
  refine lv_iconst (v := (-1)) hx hb dX8_widen_12 (by decide) ?_
  refine lv_icmp_eq (tgt := 39) hx hb dX8_widen_13 (by decide) (fun c_2 => absurd c_2 (by decide)) (fun c_2 => ?_)
  refine lv_aload_n hx hb dX8_widen_16 rfl (lv_at hl 2 rfl) ?_
  refine va_get (D := D) (ci := 12) (v := .ref (q 6)) (C := RX8) (T := TX8) (N := 10) hx hb hts (fun w9 h9 => fz_m (fin_X8 w9 h9)) hown hK hP 1 rfl rfl 6 (by decide) (hts _ (fz_m fm_39)) (fun _ h9 => h9) rfl dX8_widen_17 ?_
  refine lv_iload_n hx hb dX8_widen_20 rfl (lv_at hl 1 rfl) ?_
  refine lv_dup2_11 hx hb dX8_widen_21 rfl rfl ?_
  refine va_iald hx hb hK hP 6 0 rfl rfl (fz_vin (by decide)) dX8_widen_22 ?_
  refine fz_I (y := 0) g_f_6_0 ?_
  refine lv_iload_n hx hb dX8_widen_23 rfl (lv_at hl 4 rfl) ?_
  refine lv_iadd hx hb dX8_widen_24 ?_
  refine fz_I (y := 1) (by decide) ?_
  refine va_iast hx hb hK hP hD hS 6 0 rfl rfl (fz_vin (by decide)) dX8_widen_25 (fun H locs hP hD hS => ?_)
  have hP : va_P D vwCl (fz_WC k q (va_up f 6 (upd (f 6) 0 1)) pa v) H := hP
  have hD : va_D A (fz_WC k q (va_up f 6 (upd (f 6) 0 1)) pa v) := hD
  refine lv_aload_n hx hb dX8_widen_26 rfl (lv_at hl 2 rfl) ?_
  refine va_get (D := D) (ci := 12) (v := .ref (q 5)) (C := RX8) (T := TX8) (N := 10) hx hb hts (fun w9 h9 => fz_m (fin_X8 w9 h9)) hown hK hP 1 rfl rfl 5 (by decide) (hts _ (fz_m fm_47)) (fun _ h9 => h9) rfl dX8_widen_27 ?_
  refine lv_iload_n hx hb dX8_widen_30 rfl (lv_at hl 1 rfl) ?_
  refine va_iald hx hb hK hP 5 0 rfl rfl (fz_vin (by decide)) dX8_widen_31 ?_
  refine fz_I (y := (-1)) g_f_5_0 ?_
  refine lv_istore_n (lv' := [(3, .int (-1)), (4, .int 0), (0, .ref (q 1)), (1, .int 0), (2, .int 1)]) hx hb dX8_widen_32 rfl hl (by decide) rfl (fun ls hl => ?_)
  refine lv_iinc (v := 1) (lv' := [(4, .int 1), (3, .int (-1)), (0, .ref (q 1)), (1, .int 0), (2, .int 1)]) hx hb dX8_widen_33 hl (k := 1) rfl (by decide) (by decide) rfl (fun ls hl => ?_)
  refine lv_goto (tgt := 5) hx hb dX8_widen_36 (by decide) ?_
  refine lv_iload hx hb dX8_widen_5 (lv_at hl 0 rfl) ?_
  refine lv_iconst (v := 3) hx hb dX8_widen_7 (by decide) ?_
  refine lv_icmp_gt (tgt := 39) hx hb dX8_widen_8 (by decide) (fun c_3 => absurd c_3 (by decide)) (fun c_3 => ?_)
  refine lv_iload_n hx hb dX8_widen_11 rfl (lv_at hl 1 rfl) ?_
  refine lv_iconst (v := (-1)) hx hb dX8_widen_12 (by decide) ?_
  refine lv_icmp_eq (tgt := 39) hx hb dX8_widen_13 (by decide) (fun c_4 => ?_) (fun c_4 => absurd (by decide) c_4)
  have hP : va_P D vwCl [] H := fz_nil
  exact fz_vret hx hb hr hlocks hS dX8_widen_39 () trivial hP (Nat.le_of_ble_eq_true rfl) (Nat.le_of_ble_eq_true rfl)

set_option maxHeartbeats 4000000 in
set_option maxRecDepth 100000 in
theorem c_hang (l : Launch) (A : Nat → Prop) (D : va_G) (k : Nat → ClassId) (q : Nat → Nat) (f : Nat → Nat → Int32) (pa : Nat → Option Nat) (v : Nat → Int32) (g_f_6_1 : f 6 1 = 0) (g_v_2 : v 2 = 1) (g_f_6_0 : f 6 0 = 0) (g_f_5_0 : f 5 0 = (-1))  :
    Met l yX8_hang (fz_ws yX8_hang cX8_hang 5 none) { frames := 12, cells := 0, slots := 0, locals := 160 } (va_Pc [.ref (q 1), .int 1, .int 0] (fz_PC A D (fz_tys k) (fz_WC k q f pa v))) (fz_QV D A (fun (_ : Unit) => ([] : va_W)) (fun (_ : Unit) => True)) 0 0 A := by
  refine fz_of (by decide +kernel) (Nat.le_of_ble_eq_true rfl) ?_
  intro p e s m below meth c hx hb hr hml hown hlocks hts hin hA hP hK hD hG hS ls hl
  have hown : s.vm.findClass RX8 = some m.cls := hown
  have S0 : CallFix p m c cX8_hang 5 s [.ref (q 1), .int 1, .int 0].toArray (fz_ws yX8_hang cX8_hang 5 none) RX8 := ⟨hx, hb, hml, hown, hts⟩
  have hl : lv_has ls 5 [(0, .ref (q 1)), (1, .int 1), (2, .int 0)] := hl
  refine lv_aload_n hx hb dX8_hang_0 rfl (lv_at hl 0 rfl) ?_
  refine va_get (D := D) (ci := 12) (v := .ref (q 6)) (C := RX8) (T := TX8) (N := 10) hx hb hts (fun w9 h9 => fz_m (fin_X8 w9 h9)) hown hK hP 1 rfl rfl 6 (by decide) (hts _ (fz_m fm_39)) (fun _ h9 => h9) rfl dX8_hang_1 ?_
  refine lv_iload_n hx hb dX8_hang_4 rfl (lv_at hl 1 rfl) ?_
  refine va_iald hx hb hK hP 6 0 rfl rfl (fz_vin (by decide)) dX8_hang_5 ?_
  refine fz_I (y := 0) g_f_6_1 ?_
  refine lv_iconst (v := 1) hx hb dX8_hang_6 (by decide) ?_
  refine lv_iadd hx hb dX8_hang_7 ?_
  refine fz_I (y := 1) (by decide) ?_
  refine lv_istore_n (lv' := [(3, .int 1), (0, .ref (q 1)), (1, .int 1), (2, .int 0)]) hx hb dX8_hang_8 rfl hl (by decide) rfl (fun ls hl => ?_)
  refine lv_aload_n hx hb dX8_hang_9 rfl (lv_at hl 1 rfl) ?_
  refine lv_iload_n hx hb dX8_hang_10 rfl (lv_at hl 3 rfl) ?_
  refine fz_cVi (As := [.int 0]) (rest := []) S0 (c_place l A D k q f pa v 0 g_v_2) (fz_cwV (C := RX8) 1 hts fm_35 fm_36 fm_37 fm_38 fm_15 rfl rfl ⟨by decide, by decide, by decide +kernel⟩ ⟨Nat.le_of_ble_eq_true rfl, Nat.le_of_ble_eq_true rfl⟩) (va_recv hK hP (ci := 12) (q0 := 1) rfl rfl) (fun _ h9 => h9) (fun a9 h9 => hA a9 (Nat.le_trans hS.1 h9)) hG hS hP hK hD rfl hl.1 rfl (Nat.le_of_ble_eq_true rfl) dX8_hang_11 ⟨Nat.le_of_ble_eq_true rfl, Nat.le_of_ble_eq_true rfl⟩ (fun r_1 u_1 H locs hw hz1 hk1 hP hS => ?_)
  have hP : va_P D vwCl (fz_WC k q f pa v) H := hP
  obtain rfl : r_1 = 0 := hw
  refine lv_aload_n hx hb dX8_hang_14 rfl (lv_at hl 1 rfl) ?_
  refine va_get (D := D) (ci := 12) (v := .ref (q 6)) (C := RX8) (T := TX8) (N := 10) hx hb hts (fun w9 h9 => fz_m (fin_X8 w9 h9)) hown hK hP 1 rfl rfl 6 (by decide) (hts _ (fz_m fm_39)) (fun _ h9 => h9) rfl dX8_hang_15 ?_
  refine lv_iload_n hx hb dX8_hang_18 rfl (lv_at hl 3 rfl) ?_
  refine va_iald hx hb hK hP 6 0 rfl rfl (fz_vin (by decide)) dX8_hang_19 ?_
  refine fz_I (y := 0) g_f_6_0 ?_
  refine lv_iadd hx hb dX8_hang_20 ?_
  refine fz_I (y := 0) (by decide) ?_
  refine lv_iconst (v := 1) hx hb dX8_hang_21 (by decide) ?_
  refine lv_iadd hx hb dX8_hang_22 ?_
  refine fz_I (y := 1) (by decide) ?_
  refine lv_istore (lv' := [(4, .int 1), (3, .int 1), (0, .ref (q 1)), (1, .int 1), (2, .int 0)]) hx hb dX8_hang_23 hl (by decide) rfl (fun ls hl => ?_)
  refine lv_aload_n hx hb dX8_hang_25 rfl (lv_at hl 2 rfl) ?_
  refine va_get (D := D) (ci := 12) (v := .ref (q 2)) (C := RX8) (T := TX8) (N := 10) hx hb hts (fun w9 h9 => fz_m (fin_X8 w9 h9)) hown hK hP 1 rfl rfl 2 (by decide) (hts _ (fz_m fm_41)) (fun _ h9 => h9) rfl dX8_hang_26 ?_
  refine lv_iload hx hb dX8_hang_29 (lv_at hl 0 rfl) ?_
  refine lv_aload_n hx hb dX8_hang_31 rfl (lv_at hl 2 rfl) ?_
  refine va_get (D := D) (ci := 12) (v := .ref (q 2)) (C := RX8) (T := TX8) (N := 10) hx hb hts (fun w9 h9 => fz_m (fin_X8 w9 h9)) hown hK hP 1 rfl rfl 2 (by decide) (hts _ (fz_m fm_41)) (fun _ h9 => h9) rfl dX8_hang_32 ?_
  refine lv_iload hx hb dX8_hang_35 (lv_at hl 0 rfl) ?_
  refine lv_iload_n hx hb dX8_hang_37 rfl (lv_at hl 1 rfl) ?_
  refine lv_iadd hx hb dX8_hang_38 ?_
  refine fz_I (y := 2) (by decide) ?_
  refine lv_aload_n hx hb dX8_hang_39 rfl (lv_at hl 2 rfl) ?_
  refine va_get (D := D) (ci := 12) (v := .int (v 2)) (C := RX8) (T := TX8) (N := 10) hx hb hts (fun w9 h9 => fz_m (fin_X8 w9 h9)) hown hK hP 1 rfl rfl 1 (by decide) (hts _ (fz_m fm_2)) (fun _ h9 => h9) rfl dX8_hang_40 ?_
  refine fz_I (y := 1) g_v_2 ?_
  refine lv_iload hx hb dX8_hang_43 (lv_at hl 0 rfl) ?_
  refine lv_isub hx hb dX8_hang_45 ?_
  refine fz_I (y := 0) (by decide) ?_
  refine va_copyi hx hb (hml.trans hl.1.symm) hown (hts _ (fz_m fm_253)) (hts _ (fz_m fm_254)) (hts _ (fz_m fm_255)) (hts _ (fz_m fm_256)) hK hP hD hS 2 2 0 0 rfl rfl rfl rfl rfl (by decide) (by decide) (by decide) (by decide) (by decide) (fun _ _ => rfl) (Nat.le_of_ble_eq_true rfl) (Nat.le_of_ble_eq_true rfl) dX8_hang_46 (fun H locs hP hD hS => ?_)
  have hP : va_P D vwCl (fz_WC k q (va_up f 2 (va_cpy (f 2) (f 2) (1 : Int32).toNatClampNeg (2 : Int32).toNatClampNeg (0 : Int32).toNatClampNeg)) pa v) H := hP
  have hD : va_D A (fz_WC k q (va_up f 2 (va_cpy (f 2) (f 2) (1 : Int32).toNatClampNeg (2 : Int32).toNatClampNeg (0 : Int32).toNatClampNeg)) pa v) := hD
  refine lv_aload_n hx hb dX8_hang_49 rfl (lv_at hl 2 rfl) ?_
  refine va_get (D := D) (ci := 12) (v := .ref (q 3)) (C := RX8) (T := TX8) (N := 10) hx hb hts (fun w9 h9 => fz_m (fin_X8 w9 h9)) hown hK hP 1 rfl rfl 3 (by decide) (hts _ (fz_m fm_257)) (fun _ h9 => h9) rfl dX8_hang_50 ?_
  refine lv_iconst (v := 0) hx hb dX8_hang_53 (by decide) ?_
  refine lv_aload_n hx hb dX8_hang_54 rfl (lv_at hl 2 rfl) ?_
  refine va_get (D := D) (ci := 12) (v := .ref (q 2)) (C := RX8) (T := TX8) (N := 10) hx hb hts (fun w9 h9 => fz_m (fin_X8 w9 h9)) hown hK hP 1 rfl rfl 2 (by decide) (hts _ (fz_m fm_41)) (fun _ h9 => h9) rfl dX8_hang_55 ?_
  refine lv_iload hx hb dX8_hang_58 (lv_at hl 0 rfl) ?_
  refine lv_iload_n hx hb dX8_hang_60 rfl (lv_at hl 1 rfl) ?_
  refine va_copyi hx hb (hml.trans hl.1.symm) hown (hts _ (fz_m fm_253)) (hts _ (fz_m fm_254)) (hts _ (fz_m fm_255)) (hts _ (fz_m fm_256)) hK hP hD hS 3 2 0 0 rfl rfl rfl rfl rfl (by decide) (by decide) (by decide) (by decide) (by decide) (fun _ _ => rfl) (Nat.le_of_ble_eq_true rfl) (Nat.le_of_ble_eq_true rfl) dX8_hang_61 (fun H locs hP hD hS => ?_)
  have hP : va_P D vwCl (fz_WC k q (va_up f 2 (va_cpy (f 3) (va_cpy (f 2) (f 2) (1 : Int32).toNatClampNeg (2 : Int32).toNatClampNeg (0 : Int32).toNatClampNeg) (0 : Int32).toNatClampNeg (1 : Int32).toNatClampNeg (1 : Int32).toNatClampNeg)) pa v) H := hP
  have hD : va_D A (fz_WC k q (va_up f 2 (va_cpy (f 3) (va_cpy (f 2) (f 2) (1 : Int32).toNatClampNeg (2 : Int32).toNatClampNeg (0 : Int32).toNatClampNeg) (0 : Int32).toNatClampNeg (1 : Int32).toNatClampNeg (1 : Int32).toNatClampNeg)) pa v) := hD
  refine lv_aload_n hx hb dX8_hang_64 rfl (lv_at hl 2 rfl) ?_
  refine lv_dup hx hb dX8_hang_65 rfl ?_
  refine va_get (D := D) (ci := 12) (v := .int (v 2)) (C := RX8) (T := TX8) (N := 10) hx hb hts (fun w9 h9 => fz_m (fin_X8 w9 h9)) hown hK hP 1 rfl rfl 1 (by decide) (hts _ (fz_m fm_2)) (fun _ h9 => h9) rfl dX8_hang_66 ?_
  refine fz_I (y := 1) g_v_2 ?_
  refine lv_iload_n hx hb dX8_hang_69 rfl (lv_at hl 1 rfl) ?_
  refine lv_iadd hx hb dX8_hang_70 ?_
  refine fz_I (y := 2) (by decide) ?_
  refine va_put (D := D) (ci := 12) (v := .int 2) (ty := .int) (C := RX8) (T := TX8) (N := 10) hx hb hts (fun w9 h9 => fz_m (fin_X8 w9 h9)) tyX8 tyX8_ok nmX8 hown hK hP hD hS 1 rfl rfl 1 (by decide) (hts _ (fz_m fm_2)) (fun _ h9 => h9) rfl (by decide +kernel) rfl rfl (Nat.le_of_ble_eq_true rfl) dX8_hang_71 (fun H locs hP hD hS => ?_)
  have hP : va_P D vwCl (fz_WC k q (va_up f 2 (va_cpy (f 3) (va_cpy (f 2) (f 2) (1 : Int32).toNatClampNeg (2 : Int32).toNatClampNeg (0 : Int32).toNatClampNeg) (0 : Int32).toNatClampNeg (1 : Int32).toNatClampNeg (1 : Int32).toNatClampNeg)) pa (va_up v 2 2)) H := hP
  have hD : va_D A (fz_WC k q (va_up f 2 (va_cpy (f 3) (va_cpy (f 2) (f 2) (1 : Int32).toNatClampNeg (2 : Int32).toNatClampNeg (0 : Int32).toNatClampNeg) (0 : Int32).toNatClampNeg (1 : Int32).toNatClampNeg (1 : Int32).toNatClampNeg)) pa (va_up v 2 2)) := hD
  refine lv_aload_n hx hb dX8_hang_74 rfl (lv_at hl 2 rfl) ?_
  refine va_get (D := D) (ci := 12) (v := .ref (q 5)) (C := RX8) (T := TX8) (N := 10) hx hb hts (fun w9 h9 => fz_m (fin_X8 w9 h9)) hown hK hP 1 rfl rfl 5 (by decide) (hts _ (fz_m fm_47)) (fun _ h9 => h9) rfl dX8_hang_75 ?_
  refine lv_iload_n hx hb dX8_hang_78 rfl (lv_at hl 3 rfl) ?_
  refine lv_iload_n hx hb dX8_hang_79 rfl (lv_at hl 4 rfl) ?_
  refine va_iast hx hb hK hP hD hS 5 0 rfl rfl (fz_vin (by decide)) dX8_hang_80 (fun H locs hP hD hS => ?_)
  have hP : va_P D vwCl (fz_WC k q (va_up (va_up f 2 (va_cpy (f 3) (va_cpy (f 2) (f 2) (1 : Int32).toNatClampNeg (2 : Int32).toNatClampNeg (0 : Int32).toNatClampNeg) (0 : Int32).toNatClampNeg (1 : Int32).toNatClampNeg (1 : Int32).toNatClampNeg)) 5 (upd (f 5) 1 0)) pa (va_up v 2 2)) H := hP
  have hD : va_D A (fz_WC k q (va_up (va_up f 2 (va_cpy (f 3) (va_cpy (f 2) (f 2) (1 : Int32).toNatClampNeg (2 : Int32).toNatClampNeg (0 : Int32).toNatClampNeg) (0 : Int32).toNatClampNeg (1 : Int32).toNatClampNeg (1 : Int32).toNatClampNeg)) 5 (upd (f 5) 1 0)) pa (va_up v 2 2)) := hD
  refine lv_aload_n hx hb dX8_hang_81 rfl (lv_at hl 2 rfl) ?_
  refine lv_iload_n hx hb dX8_hang_82 rfl (lv_at hl 4 rfl) ?_
  refine lv_iload_n hx hb dX8_hang_83 rfl (lv_at hl 1 rfl) ?_
  refine fz_cVv (As := [.int 0, .int 1]) (rest := []) S0 (c_widen l A D k q (va_up (va_up f 2 (va_cpy (f 3) (va_cpy (f 2) (f 2) (1 : Int32).toNatClampNeg (2 : Int32).toNatClampNeg (0 : Int32).toNatClampNeg) (0 : Int32).toNatClampNeg (1 : Int32).toNatClampNeg (1 : Int32).toNatClampNeg)) 5 (upd (f 5) 1 0)) pa (va_up v 2 2) g_f_6_0 g_f_5_0) (fz_cwV (C := RX8) 2 hts fm_258 fm_259 fm_260 fm_261 fm_15 rfl rfl ⟨by decide, by decide, by decide +kernel⟩ ⟨Nat.le_of_ble_eq_true rfl, Nat.le_of_ble_eq_true rfl⟩) (va_recv hK hP (ci := 12) (q0 := 1) rfl rfl) (fun _ h9 => h9) (fun a9 h9 => hA a9 (Nat.le_trans hS.1 h9)) hG hS hP hK hD rfl hl.1 rfl (Nat.le_of_ble_eq_true rfl) dX8_hang_84 ⟨Nat.le_of_ble_eq_true rfl, Nat.le_of_ble_eq_true rfl⟩ (fun u_2 H locs hw hz1 hk1 hP hS => ?_)
  have hP : va_P D vwCl [] H := hP
  exact fz_vret hx hb hr hlocks hS dX8_hang_87 () trivial hP (Nat.le_of_ble_eq_true rfl) (Nat.le_of_ble_eq_true rfl)

set_option maxHeartbeats 4000000 in
set_option maxRecDepth 100000 in
theorem c_grow (l : Launch) (A : Nat → Prop) (D : va_G) (k : Nat → ClassId) (q : Nat → Nat) (f : Nat → Nat → Int32) (pa : Nat → Option Nat) (v : Nat → Int32) (p1 p2 p3 p4 : Int32) (g_v_1 : v 1 = 1) (g_v_2 : v 2 = 1) (g_f_6_0 : f 6 0 = 0) (g_f_5_0 : f 5 0 = (-1))  :
    Met l yX8_grow (fz_ws yX8_grow cX8_grow 7 (some .int)) { frames := 24, cells := 0, slots := 0, locals := 320 } (va_Pc [.ref (q 1), .int 0, .int p1, .int p2, .int p3, .int p4] (fz_PC A D (fz_tys k) (fz_WC k q f pa v))) (fz_QI D A (fun (_ : Unit) => ([] : va_W)) (fun (r : Int32) (_ : Unit) => r = 1)) 0 0 A := by
  refine fz_of (by decide +kernel) (Nat.le_of_ble_eq_true rfl) ?_
  intro p e s m below meth c hx hb hr hml hown hlocks hts hin hA hP hK hD hG hS ls hl
  have hown : s.vm.findClass RX8 = some m.cls := hown
  have S0 : CallFix p m c cX8_grow 7 s [.ref (q 1), .int 0, .int p1, .int p2, .int p3, .int p4].toArray (fz_ws yX8_grow cX8_grow 7 (some .int)) RX8 := ⟨hx, hb, hml, hown, hts⟩
  have hl : lv_has ls 7 [(0, .ref (q 1)), (1, .int 0), (2, .int p1), (3, .int p2), (4, .int p3), (5, .int p4)] := hl
  refine lv_aload_n hx hb dX8_grow_0 rfl (lv_at hl 0 rfl) ?_
  refine va_get (D := D) (ci := 12) (v := .int (v 1)) (C := RX8) (T := TX8) (N := 10) hx hb hts (fun w9 h9 => fz_m (fin_X8 w9 h9)) hown hK hP 1 rfl rfl 0 (by decide) (hts _ (fz_m fm_0)) (fun _ h9 => h9) rfl dX8_grow_1 ?_
  refine fz_I (y := 1) g_v_1 ?_
  refine lv_istore (lv' := [(6, .int 1), (0, .ref (q 1)), (1, .int 0), (2, .int p1), (3, .int p2), (4, .int p3), (5, .int p4)]) hx hb dX8_grow_4 hl (by decide) rfl (fun ls hl => ?_)
  refine lv_aload_n hx hb dX8_grow_6 rfl (lv_at hl 1 rfl) ?_
  refine lv_dup hx hb dX8_grow_7 rfl ?_
  refine va_get (D := D) (ci := 12) (v := .int (v 1)) (C := RX8) (T := TX8) (N := 10) hx hb hts (fun w9 h9 => fz_m (fin_X8 w9 h9)) hown hK hP 1 rfl rfl 0 (by decide) (hts _ (fz_m fm_0)) (fun _ h9 => h9) rfl dX8_grow_8 ?_
  refine fz_I (y := 1) g_v_1 ?_
  refine lv_iconst (v := 1) hx hb dX8_grow_11 (by decide) ?_
  refine lv_iadd hx hb dX8_grow_12 ?_
  refine fz_I (y := 2) (by decide) ?_
  refine va_put (D := D) (ci := 12) (v := .int 2) (ty := .int) (C := RX8) (T := TX8) (N := 10) hx hb hts (fun w9 h9 => fz_m (fin_X8 w9 h9)) tyX8 tyX8_ok nmX8 hown hK hP hD hS 1 rfl rfl 0 (by decide) (hts _ (fz_m fm_0)) (fun _ h9 => h9) rfl (by decide +kernel) rfl rfl (Nat.le_of_ble_eq_true rfl) dX8_grow_13 (fun H locs hP hD hS => ?_)
  have hP : va_P D vwCl (fz_WC k q f pa (va_up v 1 2)) H := hP
  have hD : va_D A (fz_WC k q f pa (va_up v 1 2)) := hD
  refine lv_aload_n hx hb dX8_grow_16 rfl (lv_at hl 1 rfl) ?_
  refine va_get (D := D) (ci := 12) (v := .ref (q 4)) (C := RX8) (T := TX8) (N := 10) hx hb hts (fun w9 h9 => fz_m (fin_X8 w9 h9)) hown hK hP 1 rfl rfl 4 (by decide) (hts _ (fz_m fm_1)) (fun _ h9 => h9) rfl dX8_grow_17 ?_
  refine lv_iload hx hb dX8_grow_20 (lv_at hl 0 rfl) ?_
  refine lv_iload_n hx hb dX8_grow_22 rfl (lv_at hl 3 rfl) ?_
  refine va_iast hx hb hK hP hD hS 4 0 rfl rfl (fz_vin (by decide)) dX8_grow_23 (fun H locs hP hD hS => ?_)
  have hP : va_P D vwCl (fz_WC k q (va_up f 4 (upd (f 4) 1 p1)) pa (va_up v 1 2)) H := hP
  have hD : va_D A (fz_WC k q (va_up f 4 (upd (f 4) 1 p1)) pa (va_up v 1 2)) := hD
  refine lv_aload_n hx hb dX8_grow_24 rfl (lv_at hl 1 rfl) ?_
  refine va_get (D := D) (ci := 12) (v := .ref (q 6)) (C := RX8) (T := TX8) (N := 10) hx hb hts (fun w9 h9 => fz_m (fin_X8 w9 h9)) hown hK hP 1 rfl rfl 6 (by decide) (hts _ (fz_m fm_39)) (fun _ h9 => h9) rfl dX8_grow_25 ?_
  refine lv_iload hx hb dX8_grow_28 (lv_at hl 0 rfl) ?_
  refine lv_iconst (v := 0) hx hb dX8_grow_30 (by decide) ?_
  refine va_iast hx hb hK hP hD hS 6 0 rfl rfl (fz_vin (by decide)) dX8_grow_31 (fun H locs hP hD hS => ?_)
  have hP : va_P D vwCl (fz_WC k q (va_up (va_up f 4 (upd (f 4) 1 p1)) 6 (upd (f 6) 1 0)) pa (va_up v 1 2)) H := hP
  have hD : va_D A (fz_WC k q (va_up (va_up f 4 (upd (f 4) 1 p1)) 6 (upd (f 6) 1 0)) pa (va_up v 1 2)) := hD
  refine lv_aload_n hx hb dX8_grow_32 rfl (lv_at hl 1 rfl) ?_
  refine va_get (D := D) (ci := 12) (v := .ref (q 7)) (C := RX8) (T := TX8) (N := 10) hx hb hts (fun w9 h9 => fz_m (fin_X8 w9 h9)) hown hK hP 1 rfl rfl 7 (by decide) (hts _ (fz_m fm_46)) (fun _ h9 => h9) rfl dX8_grow_33 ?_
  refine lv_iload hx hb dX8_grow_36 (lv_at hl 0 rfl) ?_
  refine lv_iload_n hx hb dX8_grow_38 rfl (lv_at hl 4 rfl) ?_
  refine va_iast hx hb hK hP hD hS 7 0 rfl rfl (fz_vin (by decide)) dX8_grow_39 (fun H locs hP hD hS => ?_)
  have hP : va_P D vwCl (fz_WC k q (va_up (va_up (va_up f 4 (upd (f 4) 1 p1)) 6 (upd (f 6) 1 0)) 7 (upd (f 7) 1 p2)) pa (va_up v 1 2)) H := hP
  have hD : va_D A (fz_WC k q (va_up (va_up (va_up f 4 (upd (f 4) 1 p1)) 6 (upd (f 6) 1 0)) 7 (upd (f 7) 1 p2)) pa (va_up v 1 2)) := hD
  refine lv_aload_n hx hb dX8_grow_40 rfl (lv_at hl 1 rfl) ?_
  refine va_get (D := D) (ci := 12) (v := .ref (q 8)) (C := RX8) (T := TX8) (N := 10) hx hb hts (fun w9 h9 => fz_m (fin_X8 w9 h9)) hown hK hP 1 rfl rfl 8 (by decide) (hts _ (fz_m fm_262)) (fun _ h9 => h9) rfl dX8_grow_41 ?_
  refine lv_iload hx hb dX8_grow_44 (lv_at hl 0 rfl) ?_
  refine lv_iload hx hb dX8_grow_46 (lv_at hl 5 rfl) ?_
  refine va_iast hx hb hK hP hD hS 8 0 rfl rfl (fz_vin (by decide)) dX8_grow_48 (fun H locs hP hD hS => ?_)
  have hP : va_P D vwCl (fz_WC k q (va_up (va_up (va_up (va_up f 4 (upd (f 4) 1 p1)) 6 (upd (f 6) 1 0)) 7 (upd (f 7) 1 p2)) 8 (upd (f 8) 1 p3)) pa (va_up v 1 2)) H := hP
  have hD : va_D A (fz_WC k q (va_up (va_up (va_up (va_up f 4 (upd (f 4) 1 p1)) 6 (upd (f 6) 1 0)) 7 (upd (f 7) 1 p2)) 8 (upd (f 8) 1 p3)) pa (va_up v 1 2)) := hD
  refine lv_aload_n hx hb dX8_grow_49 rfl (lv_at hl 1 rfl) ?_
  refine va_get (D := D) (ci := 12) (v := .ref (q 9)) (C := RX8) (T := TX8) (N := 10) hx hb hts (fun w9 h9 => fz_m (fin_X8 w9 h9)) hown hK hP 1 rfl rfl 9 (by decide) (hts _ (fz_m fm_40)) (fun _ h9 => h9) rfl dX8_grow_50 ?_
  refine lv_iload hx hb dX8_grow_53 (lv_at hl 0 rfl) ?_
  refine lv_iload hx hb dX8_grow_55 (lv_at hl 5 rfl) ?_
  refine lv_iconst (v := (-1)) hx hb dX8_grow_57 (by decide) ?_
  refine lv_icmp_ne (tgt := 65) hx hb dX8_grow_58 (by decide) (fun c_1 => ?_) (fun c_1 => ?_)
  · skip
    refine lv_iload hx hb dX8_grow_65 (lv_at hl 6 rfl) ?_
    refine va_iast hx hb hK hP hD hS 9 0 rfl rfl (fz_vin (by decide)) dX8_grow_67 (fun H locs hP hD hS => ?_)
    have hP : va_P D vwCl (fz_WC k q (va_up (va_up (va_up (va_up (va_up f 4 (upd (f 4) 1 p1)) 6 (upd (f 6) 1 0)) 7 (upd (f 7) 1 p2)) 8 (upd (f 8) 1 p3)) 9 (upd (f 9) 1 p4)) pa (va_up v 1 2)) H := hP
    have hD : va_D A (fz_WC k q (va_up (va_up (va_up (va_up (va_up f 4 (upd (f 4) 1 p1)) 6 (upd (f 6) 1 0)) 7 (upd (f 7) 1 p2)) 8 (upd (f 8) 1 p3)) 9 (upd (f 9) 1 p4)) pa (va_up v 1 2)) := hD
    refine lv_aload_n hx hb dX8_grow_68 rfl (lv_at hl 1 rfl) ?_
    refine va_get (D := D) (ci := 12) (v := .ref (q 3)) (C := RX8) (T := TX8) (N := 10) hx hb hts (fun w9 h9 => fz_m (fin_X8 w9 h9)) hown hK hP 1 rfl rfl 3 (by decide) (hts _ (fz_m fm_257)) (fun _ h9 => h9) rfl dX8_grow_69 ?_
    refine lv_iconst (v := 0) hx hb dX8_grow_72 (by decide) ?_
    refine lv_iload hx hb dX8_grow_73 (lv_at hl 0 rfl) ?_
    refine va_iast hx hb hK hP hD hS 3 0 rfl rfl (fz_vin (by decide)) dX8_grow_75 (fun H locs hP hD hS => ?_)
    have hP : va_P D vwCl (fz_WC k q (va_up (va_up (va_up (va_up (va_up (va_up f 4 (upd (f 4) 1 p1)) 6 (upd (f 6) 1 0)) 7 (upd (f 7) 1 p2)) 8 (upd (f 8) 1 p3)) 9 (upd (f 9) 1 p4)) 3 (upd (f 3) 0 1)) pa (va_up v 1 2)) H := hP
    have hD : va_D A (fz_WC k q (va_up (va_up (va_up (va_up (va_up (va_up f 4 (upd (f 4) 1 p1)) 6 (upd (f 6) 1 0)) 7 (upd (f 7) 1 p2)) 8 (upd (f 8) 1 p3)) 9 (upd (f 9) 1 p4)) 3 (upd (f 3) 0 1)) pa (va_up v 1 2)) := hD
    refine lv_aload_n hx hb dX8_grow_76 rfl (lv_at hl 1 rfl) ?_
    refine lv_iload hx hb dX8_grow_77 (lv_at hl 0 rfl) ?_
    refine lv_iload_n hx hb dX8_grow_79 rfl (lv_at hl 2 rfl) ?_
    refine fz_cVv (As := [.int 1, .int 0]) (rest := []) S0 (c_hang l A D k q (va_up (va_up (va_up (va_up (va_up (va_up f 4 (upd (f 4) 1 p1)) 6 (upd (f 6) 1 0)) 7 (upd (f 7) 1 p2)) 8 (upd (f 8) 1 p3)) 9 (upd (f 9) 1 p4)) 3 (upd (f 3) 0 1)) pa (va_up v 1 2) rfl g_v_2 g_f_6_0 g_f_5_0) (fz_cwV (C := RX8) 2 hts fm_263 fm_264 fm_265 fm_266 fm_15 rfl rfl ⟨by decide, by decide, by decide +kernel⟩ ⟨Nat.le_of_ble_eq_true rfl, Nat.le_of_ble_eq_true rfl⟩) (va_recv hK hP (ci := 12) (q0 := 1) rfl rfl) (fun _ h9 => h9) (fun a9 h9 => hA a9 (Nat.le_trans hS.1 h9)) hG hS hP hK hD rfl hl.1 rfl (Nat.le_of_ble_eq_true rfl) dX8_grow_80 ⟨Nat.le_of_ble_eq_true rfl, Nat.le_of_ble_eq_true rfl⟩ (fun u_2 H locs hw hz1 hk1 hP hS => ?_)
    have hP : va_P D vwCl [] H := hP
    refine lv_iload hx hb dX8_grow_83 (lv_at hl 0 rfl) ?_
    exact fz_iret hx hb hr rfl hlocks hS dX8_grow_85 () rfl hP (Nat.le_of_ble_eq_true rfl) (Nat.le_of_ble_eq_true rfl)
  · skip
    obtain rfl : p3 = (-1) := (fq_11 p3 c_1)
    refine lv_iconst (v := (-1)) hx hb dX8_grow_61 (by decide) ?_
    refine lv_goto (tgt := 67) hx hb dX8_grow_62 (by decide) ?_
    refine va_iast hx hb hK hP hD hS 9 0 rfl rfl (fz_vin (by decide)) dX8_grow_67 (fun H locs hP hD hS => ?_)
    have hP : va_P D vwCl (fz_WC k q (va_up (va_up (va_up (va_up (va_up f 4 (upd (f 4) 1 p1)) 6 (upd (f 6) 1 0)) 7 (upd (f 7) 1 p2)) 8 (upd (f 8) 1 (-1))) 9 (upd (f 9) 1 (-1))) pa (va_up v 1 2)) H := hP
    have hD : va_D A (fz_WC k q (va_up (va_up (va_up (va_up (va_up f 4 (upd (f 4) 1 p1)) 6 (upd (f 6) 1 0)) 7 (upd (f 7) 1 p2)) 8 (upd (f 8) 1 (-1))) 9 (upd (f 9) 1 (-1))) pa (va_up v 1 2)) := hD
    refine lv_aload_n hx hb dX8_grow_68 rfl (lv_at hl 1 rfl) ?_
    refine va_get (D := D) (ci := 12) (v := .ref (q 3)) (C := RX8) (T := TX8) (N := 10) hx hb hts (fun w9 h9 => fz_m (fin_X8 w9 h9)) hown hK hP 1 rfl rfl 3 (by decide) (hts _ (fz_m fm_257)) (fun _ h9 => h9) rfl dX8_grow_69 ?_
    refine lv_iconst (v := 0) hx hb dX8_grow_72 (by decide) ?_
    refine lv_iload hx hb dX8_grow_73 (lv_at hl 0 rfl) ?_
    refine va_iast hx hb hK hP hD hS 3 0 rfl rfl (fz_vin (by decide)) dX8_grow_75 (fun H locs hP hD hS => ?_)
    have hP : va_P D vwCl (fz_WC k q (va_up (va_up (va_up (va_up (va_up (va_up f 4 (upd (f 4) 1 p1)) 6 (upd (f 6) 1 0)) 7 (upd (f 7) 1 p2)) 8 (upd (f 8) 1 (-1))) 9 (upd (f 9) 1 (-1))) 3 (upd (f 3) 0 1)) pa (va_up v 1 2)) H := hP
    have hD : va_D A (fz_WC k q (va_up (va_up (va_up (va_up (va_up (va_up f 4 (upd (f 4) 1 p1)) 6 (upd (f 6) 1 0)) 7 (upd (f 7) 1 p2)) 8 (upd (f 8) 1 (-1))) 9 (upd (f 9) 1 (-1))) 3 (upd (f 3) 0 1)) pa (va_up v 1 2)) := hD
    refine lv_aload_n hx hb dX8_grow_76 rfl (lv_at hl 1 rfl) ?_
    refine lv_iload hx hb dX8_grow_77 (lv_at hl 0 rfl) ?_
    refine lv_iload_n hx hb dX8_grow_79 rfl (lv_at hl 2 rfl) ?_
    refine fz_cVv (As := [.int 1, .int 0]) (rest := []) S0 (c_hang l A D k q (va_up (va_up (va_up (va_up (va_up (va_up f 4 (upd (f 4) 1 p1)) 6 (upd (f 6) 1 0)) 7 (upd (f 7) 1 p2)) 8 (upd (f 8) 1 (-1))) 9 (upd (f 9) 1 (-1))) 3 (upd (f 3) 0 1)) pa (va_up v 1 2) rfl g_v_2 g_f_6_0 g_f_5_0) (fz_cwV (C := RX8) 2 hts fm_263 fm_264 fm_265 fm_266 fm_15 rfl rfl ⟨by decide, by decide, by decide +kernel⟩ ⟨Nat.le_of_ble_eq_true rfl, Nat.le_of_ble_eq_true rfl⟩) (va_recv hK hP (ci := 12) (q0 := 1) rfl rfl) (fun _ h9 => h9) (fun a9 h9 => hA a9 (Nat.le_trans hS.1 h9)) hG hS hP hK hD rfl hl.1 rfl (Nat.le_of_ble_eq_true rfl) dX8_grow_80 ⟨Nat.le_of_ble_eq_true rfl, Nat.le_of_ble_eq_true rfl⟩ (fun u_3 H locs hw hz1 hk1 hP hS => ?_)
    have hP : va_P D vwCl [] H := hP
    refine lv_iload hx hb dX8_grow_83 (lv_at hl 0 rfl) ?_
    exact fz_iret hx hb hr rfl hlocks hS dX8_grow_85 () rfl hP (Nat.le_of_ble_eq_true rfl) (Nat.le_of_ble_eq_true rfl)

set_option maxHeartbeats 4000000 in
set_option maxRecDepth 100000 in
theorem c_feed (l : Launch) (hl0 : l.stackTraces = false) (A : Nat → Prop) (D : va_G) (k : Nat → ClassId) (q : Nat → Nat) (f : Nat → Nat → Int32) (pa : Nat → Option Nat) (v : Nat → Int32) (p0 : Int32) (g_v_12 : v 12 = 0)  :
    vx_Met l yX9_feed (fz_ws yX9_feed cX9_feed 2 (some .int)) { frames := 12, cells := 0, slots := 0, locals := 160 } (va_Pc [.ref (q 31), .int p0] (fz_PC A D (fz_tys k) (fz_WC k q f pa v))) (fz_QI D A (fun (_ : Unit) => ([] : va_W)) (fun (r : Int32) (_ : Unit) => r = 1)) (fz_XC (fun E => (E = "java/lang/IllegalStateException" ∧ False)) A) 0 0 A := by
  refine fz_ofX (by decide +kernel) (Nat.le_of_ble_eq_true rfl) ?_
  intro p e s m below meth c hx hb hr hml hown hlocks hts ht hA hP hK hD hG hS ls hl
  have hown : s.vm.findClass RX9 = some m.cls := hown
  have S0 : CallFix p m c cX9_feed 2 s [.ref (q 31), .int p0].toArray (fz_ws yX9_feed cX9_feed 2 (some .int)) RX9 := ⟨hx, hb, hml, hown, hts⟩
  have hl : lv_has ls 2 [(0, .ref (q 31)), (1, .int p0)] := hl
  refine lv_aload_n hx hb dX9_feed_0 rfl (lv_at hl 0 rfl) ?_
  refine va_get (D := D) (ci := 13) (v := .ref (q 34)) (C := RX9) (T := TX9) (N := 8) hx hb hts (fun w9 h9 => fz_m (fin_X9 w9 h9)) hown hK hP 31 rfl rfl 6 (by decide) (hts _ (fz_m fm_267)) (fun _ h9 => h9) rfl dX9_feed_1 ?_
  refine va_get (D := D) (ci := 6) (v := .int (v 12)) (C := RX2) (T := TX2) (N := 9) hx hb hts (fun w9 h9 => fz_m (fin_X2 w9 h9)) hown hK hP 34 rfl rfl 0 (by decide) (hts _ (fz_m fm_268)) (fun _ h9 => h9) rfl dX9_feed_4 ?_
  refine fz_I (y := 0) g_v_12 ?_
  refine lv_bipush (v := 100) hx hb dX9_feed_7 (by decide) ?_
  refine lv_icmp_lt (tgt := 23) hx hb dX9_feed_9 (by decide) (fun c_1 => ?_) (fun c_1 => absurd (by decide) c_1)
  refine lv_aload_n hx hb dX9_feed_23 rfl (lv_at hl 0 rfl) ?_
  refine va_get (D := D) (ci := 13) (v := .ref (q 34)) (C := RX9) (T := TX9) (N := 8) hx hb hts (fun w9 h9 => fz_m (fin_X9 w9 h9)) hown hK hP 31 rfl rfl 6 (by decide) (hts _ (fz_m fm_267)) (fun _ h9 => h9) rfl dX9_feed_24 ?_
  refine lv_iload_n hx hb dX9_feed_27 rfl (lv_at hl 1 rfl) ?_
  refine fz_cVi (As := [.int p0]) (rest := []) S0 (c_appendI l A D k q f pa v p0 g_v_12) (fz_cwV (C := RX2) 1 hts fm_269 fm_270 fm_271 fm_272 fm_220 rfl rfl ⟨by decide, by decide, by decide +kernel⟩ ⟨Nat.le_of_ble_eq_true rfl, Nat.le_of_ble_eq_true rfl⟩) (va_recv hK hP (ci := 6) (q0 := 34) rfl rfl) (fun _ h9 => h9) (fun a9 h9 => hA a9 (Nat.le_trans hS.1 h9)) hG hS hP hK hD rfl hl.1 rfl (Nat.le_of_ble_eq_true rfl) dX9_feed_28 ⟨Nat.le_of_ble_eq_true rfl, Nat.le_of_ble_eq_true rfl⟩ (fun r_2 u_2 H locs hw hz1 hk1 hP hS => ?_)
  have hP : va_P D vwCl [] H := hP
  obtain rfl : r_2 = 1 := hw
  exact vx_ret (fz_iret hx hb hr rfl hlocks hS dX9_feed_31 () rfl hP (Nat.le_of_ble_eq_true rfl) (Nat.le_of_ble_eq_true rfl))

set_option maxHeartbeats 4000000 in
set_option maxRecDepth 100000 in
theorem c_read (l : Launch) (hl0 : l.stackTraces = false) (A : Nat → Prop) (D : va_G) (k : Nat → ClassId) (q : Nat → Nat) (f : Nat → Nat → Int32) (pa : Nat → Option Nat) (v : Nat → Int32) (p0 : Int32) (g_v_1 : v 1 = 1) (g_f_4_0 : f 4 0 = 0) (g_v_12 : v 12 = 0)  :
    vx_Met l yX9_read (fz_ws yX9_read cX9_read 3 (some .int)) { frames := 36, cells := 1, slots := 6, locals := 480 } (va_Pc [.ref (q 31), .int p0] (fz_PC A D (fz_tys k) (fz_WC k q f pa v))) (fz_QI D A (fun (_ : Unit) => ([] : va_W)) (fun (r : Int32) (_ : Unit) => r = (-100) ∧ p0 = 0)) (fz_XC (fun E => (E = "java/lang/IndexOutOfBoundsException" ∧ ¬ (p0 = 0))) A) 1 6 A := by
  refine fz_ofX (by decide +kernel) (Nat.le_of_ble_eq_true rfl) ?_
  intro p e s m below meth c hx hb hr hml hown hlocks hts ht hA hP hK hD hG hS ls hl
  have hown : s.vm.findClass RX9 = some m.cls := hown
  have S0 : CallFix p m c cX9_read 3 s [.ref (q 31), .int p0].toArray (fz_ws yX9_read cX9_read 3 (some .int)) RX9 := ⟨hx, hb, hml, hown, hts⟩
  have hl : lv_has ls 3 [(0, .ref (q 31)), (1, .int p0)] := hl
  refine lv_aload_n hx hb dX9_read_0 rfl (lv_at hl 0 rfl) ?_
  refine lv_iload_n hx hb dX9_read_1 rfl (lv_at hl 1 rfl) ?_
  refine fz_xVv (As := [.int p0]) (rest := []) S0 (c_reqNode l hl0 A D k q f pa v p0 g_v_1 g_f_4_0) (fz_cwV (C := RX9) 1 hts fm_100 fm_101 fm_102 fm_103 fm_6 rfl rfl ⟨by decide, by decide, by decide +kernel⟩ ⟨Nat.le_of_ble_eq_true rfl, Nat.le_of_ble_eq_true rfl⟩) (va_recv hK hP (ci := 13) (q0 := 31) rfl rfl) (fun _ h9 => h9) (fun a9 h9 => hA a9 (Nat.le_trans hS.1 h9)) hG hS hP hK hD rfl hl.1 rfl (Nat.le_of_ble_eq_true rfl) dX9_read_2 ⟨Nat.le_of_ble_eq_true rfl, Nat.le_of_ble_eq_true rfl⟩ ht hlocks (fun E hE => by obtain ⟨rfl, h9⟩ := hE; exact ⟨rfl, (fq_28 p0 h9)⟩) ⟨Nat.le_of_ble_eq_true rfl, Nat.le_of_ble_eq_true rfl⟩ (fun u_1 H locs hw hz1 hk1 hP hS => ?_)
  have hP : va_P D vwCl (fz_WC k q f pa v) H := hP
  have hq_1 : p0 = 0 := hw
  obtain rfl : p0 = 0 := (fq_27 p0 hq_1)
  refine lv_aload_n hx hb dX9_read_5 rfl (lv_at hl 0 rfl) ?_
  refine va_get (D := D) (ci := 13) (v := .ref (q 34)) (C := RX9) (T := TX9) (N := 8) hx hb hts (fun w9 h9 => fz_m (fin_X9 w9 h9)) hown hK hP 31 rfl rfl 6 (by decide) (hts _ (fz_m fm_267)) (fun _ h9 => h9) rfl dX9_read_6 ?_
  refine fz_cVi (As := []) (rest := []) S0 (c_parse l A D k q f pa v g_v_12) (fz_cwV (C := RX2) 0 hts fm_273 fm_274 fm_275 fm_276 fm_220 rfl rfl ⟨by decide, by decide, by decide +kernel⟩ ⟨Nat.le_of_ble_eq_true rfl, Nat.le_of_ble_eq_true rfl⟩) (va_recv hK hP (ci := 6) (q0 := 34) rfl rfl) (fun _ h9 => h9) (fun a9 h9 => hA a9 (Nat.le_trans hS.1 h9)) hG hS hP hK hD rfl hl.1 rfl (Nat.le_of_ble_eq_true rfl) dX9_read_9 ⟨Nat.le_of_ble_eq_true rfl, Nat.le_of_ble_eq_true rfl⟩ (fun r_2 u_2 H locs hw hz1 hk1 hP hS => ?_)
  have hP : va_P D vwCl (fz_WC k q f pa (va_up (va_up v 13 0) 14 0)) H := hP
  have hD : va_D A (fz_WC k q f pa (va_up (va_up v 13 0) 14 0)) := fz_Dsame hD rfl
  obtain rfl : r_2 = 0 := hw
  refine lv_istore_n (lv' := [(2, .int 0), (0, .ref (q 31)), (1, .int 0)]) hx hb dX9_read_12 rfl hl (by decide) rfl (fun ls hl => ?_)
  refine lv_aload_n hx hb dX9_read_13 rfl (lv_at hl 1 rfl) ?_
  refine va_get (D := D) (ci := 13) (v := .ref (q 34)) (C := RX9) (T := TX9) (N := 8) hx hb hts (fun w9 h9 => fz_m (fin_X9 w9 h9)) hown hK hP 31 rfl rfl 6 (by decide) (hts _ (fz_m fm_267)) (fun _ h9 => h9) rfl dX9_read_14 ?_
  refine lv_iconst (v := 0) hx hb dX9_read_17 (by decide) ?_
  refine va_put (D := D) (ci := 6) (v := .int 0) (ty := .int) (C := RX2) (T := TX2) (N := 9) hx hb hts (fun w9 h9 => fz_m (fin_X2 w9 h9)) tyX2 tyX2_ok nmX2 hown hK hP hD hS 34 rfl rfl 0 (by decide) (hts _ (fz_m fm_268)) (fun _ h9 => h9) rfl (by decide +kernel) rfl rfl (Nat.le_of_ble_eq_true rfl) dX9_read_18 (fun H locs hP hD hS => ?_)
  have hP : va_P D vwCl (fz_WC k q f pa (va_up (va_up (va_up v 13 0) 14 0) 12 0)) H := hP
  have hD : va_D A (fz_WC k q f pa (va_up (va_up (va_up v 13 0) 14 0) 12 0)) := hD
  refine lv_iload_n hx hb dX9_read_21 rfl (lv_at hl 0 rfl) ?_
  refine lv_iconst (v := (-1)) hx hb dX9_read_22 (by decide) ?_
  refine lv_icmp_eq (tgt := 31) hx hb dX9_read_23 (by decide) (fun c_3 => absurd c_3 (by decide)) (fun c_3 => ?_)
  refine lv_bipush (v := (-100)) hx hb dX9_read_26 (by decide) ?_
  refine lv_iload_n hx hb dX9_read_28 rfl (lv_at hl 0 rfl) ?_
  refine lv_isub hx hb dX9_read_29 ?_
  refine fz_I (y := (-100)) (by decide) ?_
  have hP : va_P D vwCl [] H := fz_nil
  exact vx_ret (fz_iret hx hb hr rfl hlocks hS dX9_read_30 () ⟨rfl, (fq_3 )⟩ hP (Nat.le_of_ble_eq_true rfl) (Nat.le_of_ble_eq_true rfl))

set_option maxHeartbeats 4000000 in
set_option maxRecDepth 100000 in
theorem c_write (l : Launch) (hl0 : l.stackTraces = false) (A : Nat → Prop) (D : va_G) (k : Nat → ClassId) (q : Nat → Nat) (f : Nat → Nat → Int32) (pa : Nat → Option Nat) (v : Nat → Int32) (p0 : Int32) (g_v_1 : v 1 = 1) (g_f_4_0 : f 4 0 = 0) (g_v_15 : v 15 = 0) (g_v_17 : v 17 = 0) (g_v_2 : v 2 = 1) (g_f_6_0 : f 6 0 = 0) (g_f_5_0 : f 5 0 = (-1)) (g_f_2_0 : f 2 0 = 0) (g_f_7_0 : f 7 0 = 0) (g_f_8_0 : f 8 0 = (-1))  :
    vx_Met l yX9_write (fz_ws yX9_write cX9_write 8 (some .int)) { frames := 48, cells := 1, slots := 6, locals := 640 } (va_Pc [.ref (q 31), .int p0] (fz_PC A D (fz_tys k) (fz_WC k q f pa v))) (fz_QI D A (fun (_ : Unit) => ([] : va_W)) (fun (r : Int32) (_ : Unit) => r = 1 ∧ p0 = 0)) (fz_XC (fun E => (E = "java/lang/IndexOutOfBoundsException" ∧ ¬ (p0 = 0))) A) 1 6 A := by
  refine fz_ofX (by decide +kernel) (Nat.le_of_ble_eq_true rfl) ?_
  intro p e s m below meth c hx hb hr hml hown hlocks hts ht hA hP hK hD hG hS ls hl
  have hown : s.vm.findClass RX9 = some m.cls := hown
  have S0 : CallFix p m c cX9_write 8 s [.ref (q 31), .int p0].toArray (fz_ws yX9_write cX9_write 8 (some .int)) RX9 := ⟨hx, hb, hml, hown, hts⟩
  have hl : lv_has ls 8 [(0, .ref (q 31)), (1, .int p0)] := hl
  refine lv_aload_n hx hb dX9_write_0 rfl (lv_at hl 0 rfl) ?_
  refine lv_iload_n hx hb dX9_write_1 rfl (lv_at hl 1 rfl) ?_
  refine fz_xVv (As := [.int p0]) (rest := []) S0 (c_reqNode l hl0 A D k q f pa v p0 g_v_1 g_f_4_0) (fz_cwV (C := RX9) 1 hts fm_100 fm_101 fm_102 fm_103 fm_6 rfl rfl ⟨by decide, by decide, by decide +kernel⟩ ⟨Nat.le_of_ble_eq_true rfl, Nat.le_of_ble_eq_true rfl⟩) (va_recv hK hP (ci := 13) (q0 := 31) rfl rfl) (fun _ h9 => h9) (fun a9 h9 => hA a9 (Nat.le_trans hS.1 h9)) hG hS hP hK hD rfl hl.1 rfl (Nat.le_of_ble_eq_true rfl) dX9_write_2 ⟨Nat.le_of_ble_eq_true rfl, Nat.le_of_ble_eq_true rfl⟩ ht hlocks (fun E hE => by obtain ⟨rfl, h9⟩ := hE; exact ⟨rfl, (fq_28 p0 h9)⟩) ⟨Nat.le_of_ble_eq_true rfl, Nat.le_of_ble_eq_true rfl⟩ (fun u_1 H locs hw hz1 hk1 hP hS => ?_)
  have hP : va_P D vwCl (fz_WC k q f pa v) H := hP
  have hq_1 : p0 = 0 := hw
  obtain rfl : p0 = 0 := (fq_27 p0 hq_1)
  refine lv_aload_n hx hb dX9_write_5 rfl (lv_at hl 0 rfl) ?_
  refine va_get (D := D) (ci := 13) (v := .ref (q 35)) (C := RX9) (T := TX9) (N := 8) hx hb hts (fun w9 h9 => fz_m (fin_X9 w9 h9)) hown hK hP 31 rfl rfl 7 (by decide) (hts _ (fz_m fm_202)) (fun _ h9 => h9) rfl dX9_write_6 ?_
  refine lv_iconst (v := 0) hx hb dX9_write_9 (by decide) ?_
  refine fz_cVv (As := [.int 0]) (rest := []) S0 (c_setLength l A D k q f pa v g_v_15 g_v_17) (fz_cwV (C := RJ4) 1 hts fm_277 fm_278 fm_279 fm_280 fm_207 rfl rfl ⟨by decide, by decide, by decide +kernel⟩ ⟨Nat.le_of_ble_eq_true rfl, Nat.le_of_ble_eq_true rfl⟩) (va_recv hK hP (ci := 1) (q0 := 35) rfl rfl) (fun _ h9 => h9) (fun a9 h9 => hA a9 (Nat.le_trans hS.1 h9)) hG hS hP hK hD rfl hl.1 rfl (Nat.le_of_ble_eq_true rfl) dX9_write_10 ⟨Nat.le_of_ble_eq_true rfl, Nat.le_of_ble_eq_true rfl⟩ (fun u_2 H locs hw hz1 hk1 hP hS => ?_)
  have hP : va_P D vwCl (fz_WC k q f pa (va_up v 17 0)) H := hP
  have hD : va_D A (fz_WC k q f pa (va_up v 17 0)) := fz_Dsame hD rfl
  refine lv_aload_n hx hb dX9_write_13 rfl (lv_at hl 0 rfl) ?_
  refine va_get (D := D) (ci := 13) (v := .ref (q 0)) (C := RX9) (T := TX9) (N := 8) hx hb hts (fun w9 h9 => fz_m (fin_X9 w9 h9)) hown hK hP 31 rfl rfl 0 (by decide) (hts _ (fz_m fm_9)) (fun _ h9 => h9) rfl dX9_write_14 ?_
  refine va_get (D := D) (ci := 11) (v := .ref (q 1)) (C := RX7) (T := TX7) (N := 6) hx hb hts (fun w9 h9 => fz_m (fin_X7 w9 h9)) hown hK hP 0 rfl rfl 0 (by decide) (hts _ (fz_m fm_10)) (fun _ h9 => h9) rfl dX9_write_17 ?_
  refine lv_astore_n (lv' := [(2, .ref (q 1)), (0, .ref (q 31)), (1, .int 0)]) hx hb dX9_write_20 rfl hl (by decide) rfl (fun ls hl => ?_)
  refine lv_aload_n hx hb dX9_write_21 rfl (lv_at hl 0 rfl) ?_
  refine lv_iload_n hx hb dX9_write_22 rfl (lv_at hl 2 rfl) ?_
  refine fz_cVi (As := [.int 0]) (rest := []) S0 (c_place l A D k q f pa (va_up v 17 0) 0 g_v_2) (fz_cwV (C := RX8) 1 hts fm_35 fm_281 fm_37 fm_38 fm_15 rfl rfl ⟨by decide, by decide, by decide +kernel⟩ ⟨Nat.le_of_ble_eq_true rfl, Nat.le_of_ble_eq_true rfl⟩) (va_recv hK hP (ci := 12) (q0 := 1) rfl rfl) (fun _ h9 => h9) (fun a9 h9 => hA a9 (Nat.le_trans hS.1 h9)) hG hS hP hK hD rfl hl.1 rfl (Nat.le_of_ble_eq_true rfl) dX9_write_23 ⟨Nat.le_of_ble_eq_true rfl, Nat.le_of_ble_eq_true rfl⟩ (fun r_3 u_3 H locs hw hz1 hk1 hP hS => ?_)
  have hP : va_P D vwCl (fz_WC k q f pa (va_up v 17 0)) H := hP
  obtain rfl : r_3 = 0 := hw
  refine lv_istore_n (lv' := [(3, .int 0), (2, .ref (q 1)), (0, .ref (q 31)), (1, .int 0)]) hx hb dX9_write_26 rfl hl (by decide) rfl (fun ls hl => ?_)
  refine lv_iload_n hx hb dX9_write_27 rfl (lv_at hl 0 rfl) ?_
  refine lv_aload_n hx hb dX9_write_28 rfl (lv_at hl 1 rfl) ?_
  refine va_get (D := D) (ci := 12) (v := .ref (q 6)) (C := RX8) (T := TX8) (N := 10) hx hb hts (fun w9 h9 => fz_m (fin_X8 w9 h9)) hown hK hP 1 rfl rfl 6 (by decide) (hts _ (fz_m fm_116)) (fun _ h9 => h9) rfl dX9_write_29 ?_
  refine lv_iload_n hx hb dX9_write_32 rfl (lv_at hl 3 rfl) ?_
  refine va_iald hx hb hK hP 6 0 rfl rfl (fz_vin (by decide)) dX9_write_33 ?_
  refine fz_I (y := 0) g_f_6_0 ?_
  refine lv_iadd hx hb dX9_write_34 ?_
  refine fz_I (y := 0) (by decide) ?_
  refine lv_istore (lv' := [(4, .int 0), (3, .int 0), (2, .ref (q 1)), (0, .ref (q 31)), (1, .int 0)]) hx hb dX9_write_35 hl (by decide) rfl (fun ls hl => ?_)
  refine lv_aload_n hx hb dX9_write_37 rfl (lv_at hl 2 rfl) ?_
  refine lv_iload_n hx hb dX9_write_38 rfl (lv_at hl 4 rfl) ?_
  refine fz_cVi (As := [.int 0]) (rest := []) S0 (c_depth l A D k q f pa (va_up v 17 0) g_f_5_0) (fz_cwV (C := RX8) 1 hts fm_282 fm_283 fm_284 fm_285 fm_15 rfl rfl ⟨by decide, by decide, by decide +kernel⟩ ⟨Nat.le_of_ble_eq_true rfl, Nat.le_of_ble_eq_true rfl⟩) (va_recv hK hP (ci := 12) (q0 := 1) rfl rfl) (fun _ h9 => h9) (fun a9 h9 => hA a9 (Nat.le_trans hS.1 h9)) hG hS hP hK hD rfl hl.1 rfl (Nat.le_of_ble_eq_true rfl) dX9_write_39 ⟨Nat.le_of_ble_eq_true rfl, Nat.le_of_ble_eq_true rfl⟩ (fun r_4 u_4 H locs hw hz1 hk1 hP hS => ?_)
  have hP : va_P D vwCl (fz_WC k q f pa (va_up v 17 0)) H := hP
  obtain rfl : r_4 = 0 := hw
  refine lv_istore (lv' := [(5, .int 0), (4, .int 0), (3, .int 0), (2, .ref (q 1)), (0, .ref (q 31)), (1, .int 0)]) hx hb dX9_write_42 hl (by decide) rfl (fun ls hl => ?_)
  refine lv_iload_n hx hb dX9_write_44 rfl (lv_at hl 2 rfl) ?_
  refine lv_istore (lv' := [(6, .int 0), (5, .int 0), (4, .int 0), (3, .int 0), (2, .ref (q 1)), (0, .ref (q 31)), (1, .int 0)]) hx hb dX9_write_45 hl (by decide) rfl (fun ls hl => ?_)
  refine lv_iload hx hb dX9_write_47 (lv_at hl 0 rfl) ?_
  refine lv_iload hx hb dX9_write_49 (lv_at hl 2 rfl) ?_
  refine lv_icmp_gt (tgt := 127) hx hb dX9_write_51 (by decide) (fun c_5 => absurd c_5 (by decide)) (fun c_5 => ?_)
  refine lv_iload hx hb dX9_write_54 (lv_at hl 0 rfl) ?_
  refine lv_iload hx hb dX9_write_56 (lv_at hl 2 rfl) ?_
  refine lv_icmp_ge (tgt := 77) hx hb dX9_write_58 (by decide) (fun c_6 => ?_) (fun c_6 => absurd (by decide) c_6)
  refine lv_iload hx hb dX9_write_77 (lv_at hl 1 rfl) ?_
  refine lv_istore (lv' := [(7, .int 0), (6, .int 0), (5, .int 0), (4, .int 0), (3, .int 0), (2, .ref (q 1)), (0, .ref (q 31)), (1, .int 0)]) hx hb dX9_write_79 hl (by decide) rfl (fun ls hl => ?_)
  refine lv_aload_n hx hb dX9_write_81 rfl (lv_at hl 6 rfl) ?_
  refine lv_aload_n hx hb dX9_write_82 rfl (lv_at hl 5 rfl) ?_
  refine va_get (D := D) (ci := 12) (v := .ref (q 2)) (C := RX8) (T := TX8) (N := 10) hx hb hts (fun w9 h9 => fz_m (fin_X8 w9 h9)) hown hK hP 1 rfl rfl 2 (by decide) (hts _ (fz_m fm_286)) (fun _ h9 => h9) rfl dX9_write_83 ?_
  refine lv_iload hx hb dX9_write_86 (lv_at hl 1 rfl) ?_
  refine va_iald hx hb hK hP 2 0 rfl rfl (fz_vin (by decide)) dX9_write_88 ?_
  refine fz_I (y := 0) g_f_2_0 ?_
  refine fz_cVv (As := [.int 0]) (rest := []) S0 (c_appendNode l A D k q f pa (va_up v 17 0) g_f_4_0 rfl g_v_15 g_f_7_0 g_f_8_0) (fz_cwV (C := RX9) 1 hts fm_287 fm_288 fm_289 fm_290 fm_6 rfl rfl ⟨by decide, by decide, by decide +kernel⟩ ⟨Nat.le_of_ble_eq_true rfl, Nat.le_of_ble_eq_true rfl⟩) (va_recv hK hP (ci := 13) (q0 := 31) rfl rfl) (fun _ h9 => h9) (fun a9 h9 => hA a9 (Nat.le_trans hS.1 h9)) hG hS hP hK hD rfl hl.1 rfl (Nat.le_of_ble_eq_true rfl) dX9_write_89 ⟨Nat.le_of_ble_eq_true rfl, Nat.le_of_ble_eq_true rfl⟩ (fun u_7 H locs hw hz1 hk1 hP hS => ?_)
  have hP : va_P D vwCl (fz_WC k q (va_up f 37 (upd (f 37) 0 48)) pa (va_up v 17 1)) H := hP
  have hD : va_D A (fz_WC k q (va_up f 37 (upd (f 37) 0 48)) pa (va_up v 17 1)) := fz_Dsame hD rfl
  refine lv_aload_n hx hb dX9_write_92 rfl (lv_at hl 6 rfl) ?_
  refine lv_aload_n hx hb dX9_write_93 rfl (lv_at hl 5 rfl) ?_
  refine lv_aload_n hx hb dX9_write_94 rfl (lv_at hl 5 rfl) ?_
  refine va_get (D := D) (ci := 12) (v := .ref (q 2)) (C := RX8) (T := TX8) (N := 10) hx hb hts (fun w9 h9 => fz_m (fin_X8 w9 h9)) hown hK hP 1 rfl rfl 2 (by decide) (hts _ (fz_m fm_286)) (fun _ h9 => h9) rfl dX9_write_95 ?_
  refine lv_iload hx hb dX9_write_98 (lv_at hl 1 rfl) ?_
  refine va_iald hx hb hK hP 2 0 rfl rfl (fz_vin (by decide)) dX9_write_100 ?_
  refine fz_I (y := 0) g_f_2_0 ?_
  refine fz_cVi (As := [.int 0]) (rest := [.ref (q 31)]) S0 (c_depth l A D k q (va_up f 37 (upd (f 37) 0 48)) pa (va_up v 17 1) g_f_5_0) (fz_cwV (C := RX8) 1 hts fm_282 fm_283 fm_284 fm_285 fm_15 rfl rfl ⟨by decide, by decide, by decide +kernel⟩ ⟨Nat.le_of_ble_eq_true rfl, Nat.le_of_ble_eq_true rfl⟩) (va_recv hK hP (ci := 12) (q0 := 1) rfl rfl) (fun _ h9 => h9) (fun a9 h9 => hA a9 (Nat.le_trans hS.1 h9)) hG hS hP hK hD rfl hl.1 rfl (Nat.le_of_ble_eq_true rfl) dX9_write_101 ⟨Nat.le_of_ble_eq_true rfl, Nat.le_of_ble_eq_true rfl⟩ (fun r_8 u_8 H locs hw hz1 hk1 hP hS => ?_)
  have hP : va_P D vwCl (fz_WC k q (va_up f 37 (upd (f 37) 0 48)) pa (va_up v 17 1)) H := hP
  obtain rfl : r_8 = 0 := hw
  refine lv_iload hx hb dX9_write_104 (lv_at hl 0 rfl) ?_
  refine lv_iload hx hb dX9_write_106 (lv_at hl 1 rfl) ?_
  refine lv_iload hx hb dX9_write_108 (lv_at hl 3 rfl) ?_
  refine lv_icmp_ge (tgt := 117) hx hb dX9_write_110 (by decide) (fun c_9 => ?_) (fun c_9 => absurd (by decide) c_9)
  refine lv_iconst (v := 0) hx hb dX9_write_117 (by decide) ?_
  refine fz_cVv (As := [.int 0, .int 0, .int 0]) (rest := []) S0 (c_appendLink l A D k q (va_up f 37 (upd (f 37) 0 48)) pa (va_up v 17 1) ) (fz_cwV (C := RX9) 3 hts fm_291 fm_292 fm_293 fm_294 fm_6 rfl rfl ⟨by decide, by decide, by decide +kernel⟩ ⟨Nat.le_of_ble_eq_true rfl, Nat.le_of_ble_eq_true rfl⟩) (va_recv hK hP (ci := 13) (q0 := 31) rfl rfl) (fun _ h9 => h9) (fun a9 h9 => hA a9 (Nat.le_trans hS.1 h9)) hG hS hP hK hD rfl hl.1 rfl (Nat.le_of_ble_eq_true rfl) dX9_write_118 ⟨Nat.le_of_ble_eq_true rfl, Nat.le_of_ble_eq_true rfl⟩ (fun u_10 H locs hw hz1 hk1 hP hS => ?_)
  have hP : va_P D vwCl (fz_WC k q (va_up f 37 (upd (f 37) 0 48)) pa (va_up v 17 1)) H := hP
  refine lv_iinc (v := 1) (lv' := [(6, .int 1), (7, .int 0), (5, .int 0), (4, .int 0), (3, .int 0), (2, .ref (q 1)), (0, .ref (q 31)), (1, .int 0)]) hx hb dX9_write_121 hl (k := 1) rfl (by decide) (by decide) rfl (fun ls hl => ?_)
  refine lv_goto (tgt := 47) hx hb dX9_write_124 (by decide) ?_
  refine lv_iload hx hb dX9_write_47 (lv_at hl 0 rfl) ?_
  refine lv_iload hx hb dX9_write_49 (lv_at hl 3 rfl) ?_
  refine lv_icmp_gt (tgt := 127) hx hb dX9_write_51 (by decide) (fun c_11 => ?_) (fun c_11 => absurd (by decide) c_11)
  refine lv_aload_n hx hb dX9_write_127 rfl (lv_at hl 6 rfl) ?_
  refine va_get (D := D) (ci := 13) (v := .ref (q 35)) (C := RX9) (T := TX9) (N := 8) hx hb hts (fun w9 h9 => fz_m (fin_X9 w9 h9)) hown hK hP 31 rfl rfl 7 (by decide) (hts _ (fz_m fm_202)) (fun _ h9 => h9) rfl dX9_write_128 ?_
  refine fz_cVi (As := []) (rest := []) S0 (c_len1 l A D k q (va_up f 37 (upd (f 37) 0 48)) pa (va_up v 17 1) rfl) (fz_cwV (C := RJ4) 0 hts fm_203 fm_204 fm_205 fm_206 fm_207 rfl rfl ⟨by decide, by decide, by decide +kernel⟩ ⟨Nat.le_of_ble_eq_true rfl, Nat.le_of_ble_eq_true rfl⟩) (va_recv hK hP (ci := 1) (q0 := 35) rfl rfl) (fun _ h9 => h9) (fun a9 h9 => hA a9 (Nat.le_trans hS.1 h9)) hG hS hP hK hD rfl hl.1 rfl (Nat.le_of_ble_eq_true rfl) dX9_write_131 ⟨Nat.le_of_ble_eq_true rfl, Nat.le_of_ble_eq_true rfl⟩ (fun r_12 u_12 H locs hw hz1 hk1 hP hS => ?_)
  have hP : va_P D vwCl (fz_WC k q (va_up f 37 (upd (f 37) 0 48)) pa (va_up v 17 1)) H := hP
  obtain rfl : r_12 = 1 := hw
  have hP : va_P D vwCl [] H := fz_nil
  exact vx_ret (fz_iret hx hb hr rfl hlocks hS dX9_write_134 () ⟨rfl, (fq_3 )⟩ hP (Nat.le_of_ble_eq_true rfl) (Nat.le_of_ble_eq_true rfl))

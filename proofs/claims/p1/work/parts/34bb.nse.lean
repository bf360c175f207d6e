set_option maxHeartbeats 4000000 in
set_option maxRecDepth 100000 in
theorem c_resolve (l : Launch) (hl0 : l.stackTraces = false) (A : Nat → Prop) (D : va_G) (k : Nat → ClassId) (q : Nat → Nat) (f : Nat → Nat → Int32) (pa : Nat → Option Nat) (v : Nat → Int32) (p0 p1 : Int32) (g_v_6 : v 6 = 0) (g_v_1 : v 1 = 1) (g_f_4_0 : f 4 0 = 0)  :
    vx_Met l yX9_resolve (fz_ws yX9_resolve cX9_resolve 4 (some .int)) { frames := 12, cells := 1, slots := 6, locals := 160 } (va_Pc [.ref (q 31), .int p0, .int p1] (fz_PC A D (fz_tys k) (fz_WC k q f pa v))) (fz_QI D A (fun (_ : Unit) => ([] : va_W)) (fun (r : Int32) (_ : Unit) => False)) (fz_XC (fun E => (E = "java/util/NoSuchElementException" ∧ True)) A) 1 6 A := by
  refine fz_ofX (by decide +kernel) (Nat.le_of_ble_eq_true rfl) ?_
  intro p e s m below meth c hx hb hr hml hown hlocks hts ht hA hP hK hD hG hS ls hl
  have hown : s.vm.findClass RX9 = some m.cls := hown
  have S0 : CallFix p m c cX9_resolve 4 s [.ref (q 31), .int p0, .int p1].toArray (fz_ws yX9_resolve cX9_resolve 4 (some .int)) RX9 := ⟨hx, hb, hml, hown, hts⟩
  have hl : lv_has ls 4 [(0, .ref (q 31)), (1, .int p0), (2, .int p1)] := hl
  refine lv_aload_n hx hb dX9_resolve_0 rfl (lv_at hl 0 rfl) ?_
  refine va_get (D := D) (ci := 13) (v := .ref (q 0)) (C := RX9) (T := TX9) (N := 8) hx hb hts (fun w9 h9 => fz_m (fin_X9 w9 h9)) hown hK hP 31 rfl rfl 0 (by decide) (hts _ (fz_m fm_9)) (fun _ h9 => h9) rfl dX9_resolve_1 ?_
  refine va_get (D := D) (ci := 11) (v := .ref (q 14)) (C := RX7) (T := TX7) (N := 6) hx hb hts (fun w9 h9 => fz_m (fin_X7 w9 h9)) hown hK hP 0 rfl rfl 2 (by decide) (hts _ (fz_m fm_21)) (fun _ h9 => h9) rfl dX9_resolve_4 ?_
  refine va_get (D := D) (ci := 4) (v := .ref (q 20)) (C := RX0) (T := TX0) (N := 9) hx hb hts (fun w9 h9 => fz_m (fin_X0 w9 h9)) hown hK hP 14 rfl rfl 8 (by decide) (hts _ (fz_m fm_178)) (fun _ h9 => h9) rfl dX9_resolve_7 ?_
  refine lv_iload_n hx hb dX9_resolve_10 rfl (lv_at hl 1 rfl) ?_
  refine lv_iload_n hx hb dX9_resolve_11 rfl (lv_at hl 2 rfl) ?_
  refine fz_cVi (As := [.int p0, .int p1]) (rest := []) S0 (c_unitOf l A D k q f pa v p0 p1 g_v_6) (fz_cwV (C := RX3) 2 hts fm_1029 fm_1030 fm_1031 fm_1032 fm_183 rfl rfl ⟨by decide, by decide, by decide +kernel⟩ ⟨Nat.le_of_ble_eq_true rfl, Nat.le_of_ble_eq_true rfl⟩) (va_recv hK hP (ci := 7) (q0 := 20) rfl rfl) (fun _ h9 => h9) (fun a9 h9 => hA a9 (Nat.le_trans hS.1 h9)) hG hS hP hK hD rfl hl.1 rfl (Nat.le_of_ble_eq_true rfl) dX9_resolve_12 ⟨Nat.le_of_ble_eq_true rfl, Nat.le_of_ble_eq_true rfl⟩ (fun r_1 u_1 H locs hw hz1 hk1 hP hS => ?_)
  have hP : va_P D vwCl (fz_WC k q f pa v) H := hP
  obtain rfl : r_1 = (-1) := hw
  refine lv_istore_n (lv' := [(3, .int (-1)), (0, .ref (q 31)), (1, .int p0), (2, .int p1)]) hx hb dX9_resolve_15 rfl hl (by decide) rfl (fun ls hl => ?_)
  refine lv_aload_n hx hb dX9_resolve_16 rfl (lv_at hl 1 rfl) ?_
  refine va_get (D := D) (ci := 13) (v := .ref (q 0)) (C := RX9) (T := TX9) (N := 8) hx hb hts (fun w9 h9 => fz_m (fin_X9 w9 h9)) hown hK hP 31 rfl rfl 0 (by decide) (hts _ (fz_m fm_9)) (fun _ h9 => h9) rfl dX9_resolve_17 ?_
  refine va_get (D := D) (ci := 11) (v := .ref (q 1)) (C := RX7) (T := TX7) (N := 6) hx hb hts (fun w9 h9 => fz_m (fin_X7 w9 h9)) hown hK hP 0 rfl rfl 0 (by decide) (hts _ (fz_m fm_10)) (fun _ h9 => h9) rfl dX9_resolve_20 ?_
  refine lv_iload_n hx hb dX9_resolve_23 rfl (lv_at hl 0 rfl) ?_
  refine fz_cVi (As := [.int (-1)]) (rest := []) S0 (c_has l A D k q f pa v (-1) g_v_1 g_f_4_0) (fz_cwV (C := RX8) 1 hts fm_11 fm_12 fm_13 fm_14 fm_15 rfl rfl ⟨by decide, by decide, by decide +kernel⟩ ⟨Nat.le_of_ble_eq_true rfl, Nat.le_of_ble_eq_true rfl⟩) (va_recv hK hP (ci := 12) (q0 := 1) rfl rfl) (fun _ h9 => h9) (fun a9 h9 => hA a9 (Nat.le_trans hS.1 h9)) hG hS hP hK hD rfl hl.1 rfl (Nat.le_of_ble_eq_true rfl) dX9_resolve_24 ⟨Nat.le_of_ble_eq_true rfl, Nat.le_of_ble_eq_true rfl⟩ (fun r_2 u_2 H locs hw hz1 hk1 hP hS => ?_)
  have hP : va_P D vwCl (fz_WC k q f pa v) H := hP
  rcases (show (r_2 = 1 ∧ ((-1) : Int32) = 0) ∨ (r_2 = 0 ∧ ¬ (((-1) : Int32) = 0)) from hw) with ⟨rfl, hq_2⟩ | ⟨rfl, hq_2⟩
  · skip
    exact (fq_254 hq_2).elim
  · skip
    refine lv_if_ne (tgt := 41) hx hb dX9_resolve_27 (by decide) (fun c_3 => absurd (by decide) c_3) (fun c_3 => ?_)
    exact nz_throwW (text := "the mark refers to no unit") (is := 287) hx hb hl0 hown hts hG ⟨fm_1033, fm_1034⟩ (by decide) hS (hl.1.trans hml.symm) dX9_resolve_30 dX9_resolve_33 dX9_resolve_34 dX9_resolve_37 dX9_resolve_40 ht hlocks ⟨Nat.le_of_ble_eq_true rfl, Nat.le_of_ble_eq_true rfl, Nat.le_of_ble_eq_true rfl, Nat.le_of_ble_eq_true rfl⟩ ⟨rfl, trivial⟩ ⟨Nat.le_of_ble_eq_true rfl, Nat.le_of_ble_eq_true rfl⟩

set_option maxHeartbeats 4000000 in
set_option maxRecDepth 100000 in
theorem c_report (l : Launch) (hl0 : l.stackTraces = false) (A : Nat → Prop) (D : va_G) (k : Nat → ClassId) (q : Nat → Nat) (f : Nat → Nat → Int32) (pa : Nat → Option Nat) (v : Nat → Int32) (p0 p1 : Int32) (g_v_11 : v 11 = 0)  :
    vx_Met l yX9_report (fz_ws yX9_report cX9_report 3 (some .int)) { frames := 12, cells := 1, slots := 6, locals := 160 } (va_Pc [.ref (q 31), .int p0, .int p1] (fz_PC A D (fz_tys k) (fz_WC k q f pa v))) (fz_QI D A (fun (_ : Unit) => ([] : va_W)) (fun (r : Int32) (_ : Unit) => False)) (fz_XC (fun E => (E = "java/util/NoSuchElementException" ∧ True)) A) 1 6 A := by
  refine fz_ofX (by decide +kernel) (Nat.le_of_ble_eq_true rfl) ?_
  intro p e s m below meth c hx hb hr hml hown hlocks hts ht hA hP hK hD hG hS ls hl
  have hown : s.vm.findClass RX9 = some m.cls := hown
  have S0 : CallFix p m c cX9_report 3 s [.ref (q 31), .int p0, .int p1].toArray (fz_ws yX9_report cX9_report 3 (some .int)) RX9 := ⟨hx, hb, hml, hown, hts⟩
  have hl : lv_has ls 3 [(0, .ref (q 31)), (1, .int p0), (2, .int p1)] := hl
  refine lv_iload_n hx hb dX9_report_0 rfl (lv_at hl 1 rfl) ?_
  refine lv_if_lt (tgt := 15) hx hb dX9_report_1 (by decide) (fun c_1 => ?_) (fun c_1 => ?_)
  · skip
    exact nz_throwW (text := "no such level") (is := 424) hx hb hl0 hown hts hG ⟨fm_1033, fm_1034⟩ (by decide) hS (hl.1.trans hml.symm) dX9_report_15 dX9_report_18 dX9_report_19 dX9_report_22 dX9_report_25 ht hlocks ⟨Nat.le_of_ble_eq_true rfl, Nat.le_of_ble_eq_true rfl, Nat.le_of_ble_eq_true rfl, Nat.le_of_ble_eq_true rfl⟩ ⟨rfl, trivial⟩ ⟨Nat.le_of_ble_eq_true rfl, Nat.le_of_ble_eq_true rfl⟩
  · skip
    refine lv_iload_n hx hb dX9_report_4 rfl (lv_at hl 1 rfl) ?_
    refine lv_aload_n hx hb dX9_report_5 rfl (lv_at hl 0 rfl) ?_
    refine va_get (D := D) (ci := 13) (v := .ref (q 33)) (C := RX9) (T := TX9) (N := 8) hx hb hts (fun w9 h9 => fz_m (fin_X9 w9 h9)) hown hK hP 31 rfl rfl 5 (by decide) (hts _ (fz_m fm_389)) (fun _ h9 => h9) rfl dX9_report_6 ?_
    refine va_get (D := D) (ci := 8) (v := .int (v 11)) (C := RX4) (T := TX4) (N := 3) hx hb hts (fun w9 h9 => fz_m (fin_X4 w9 h9)) hown hK hP 33 rfl rfl 0 (by decide) (hts _ (fz_m fm_1035)) (fun _ h9 => h9) rfl dX9_report_9 ?_
    refine fz_I (y := 0) g_v_11 ?_
    refine lv_icmp_lt (tgt := 26) hx hb dX9_report_12 (by decide) (fun c_2 => (fq_29 p0 c_1 c_2).elim) (fun c_2 => ?_)
    exact nz_throwW (text := "no such level") (is := 424) hx hb hl0 hown hts hG ⟨fm_1033, fm_1034⟩ (by decide) hS (hl.1.trans hml.symm) dX9_report_15 dX9_report_18 dX9_report_19 dX9_report_22 dX9_report_25 ht hlocks ⟨Nat.le_of_ble_eq_true rfl, Nat.le_of_ble_eq_true rfl, Nat.le_of_ble_eq_true rfl, Nat.le_of_ble_eq_true rfl⟩ ⟨rfl, trivial⟩ ⟨Nat.le_of_ble_eq_true rfl, Nat.le_of_ble_eq_true rfl⟩

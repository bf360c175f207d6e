set_option maxHeartbeats 4000000 in
set_option maxRecDepth 100000 in
theorem c_remove (l : Launch) (hl0 : l.stackTraces = false) (A : Nat → Prop) (D : va_G) (k : Nat → ClassId) (q : Nat → Nat) (f : Nat → Nat → Int32) (pa : Nat → Option Nat) (v : Nat → Int32) (p0 : Int32) (g_v_1 : v 1 = 1) (g_f_4_0 : f 4 0 = 0)  :
    vx_Met l yX9_remove (fz_ws yX9_remove cX9_remove 3 (some .int)) { frames := 24, cells := 2, slots := 12, locals := 320 } (va_Pc [.ref (q 31), .int p0] (fz_PC A D (fz_tys k) (fz_WC k q f pa v))) (fz_QI D A (fun (_ : Unit) => ([] : va_W)) (fun (r : Int32) (_ : Unit) => False)) (fz_XC (fun E => (E = "java/lang/IndexOutOfBoundsException" ∧ ¬ (p0 = 0)) ∨ (E = "java/lang/IllegalArgumentException" ∧ p0 = 0)) A) 2 12 A := by
  refine fz_ofX (by decide +kernel) (Nat.le_of_ble_eq_true rfl) ?_
  intro p e s m below meth c hx hb hr hml hown hlocks hts ht hA hP hK hD hG hS ls hl
  have hown : s.vm.findClass RX9 = some m.cls := hown
  have S0 : CallFix p m c cX9_remove 3 s [.ref (q 31), .int p0].toArray (fz_ws yX9_remove cX9_remove 3 (some .int)) RX9 := ⟨hx, hb, hml, hown, hts⟩
  have hl : lv_has ls 3 [(0, .ref (q 31)), (1, .int p0)] := hl
  refine lv_aload_n hx hb dX9_remove_0 rfl (lv_at hl 0 rfl) ?_
  refine lv_iload_n hx hb dX9_remove_1 rfl (lv_at hl 1 rfl) ?_
  refine fz_xVv (As := [.int p0]) (rest := []) S0 (c_reqNode l hl0 A D k q f pa v p0 g_v_1 g_f_4_0) (fz_cwV (C := RX9) 1 hts fm_100 fm_101 fm_102 fm_103 fm_6 rfl rfl ⟨by decide, by decide, by decide +kernel⟩ ⟨Nat.le_of_ble_eq_true rfl, Nat.le_of_ble_eq_true rfl⟩) (va_recv hK hP (ci := 13) (q0 := 31) rfl rfl) (fun _ h9 => h9) (fun a9 h9 => hA a9 (Nat.le_trans hS.1 h9)) hG hS hP hK hD rfl hl.1 rfl (Nat.le_of_ble_eq_true rfl) dX9_remove_2 ⟨Nat.le_of_ble_eq_true rfl, Nat.le_of_ble_eq_true rfl⟩ ht hlocks (fun E hE => by obtain ⟨rfl, h9⟩ := hE; exact (Or.inl ⟨rfl, (fq_28 p0 h9)⟩)) ⟨Nat.le_of_ble_eq_true rfl, Nat.le_of_ble_eq_true rfl⟩ (fun u_1 H locs hw hz1 hk1 hP hS => ?_)
  have hP : va_P D vwCl (fz_WC k q f pa v) H := hP
  have hq_1 : p0 = 0 := hw
  obtain rfl : p0 = 0 := (fq_27 p0 hq_1)
  refine lv_iload_n hx hb dX9_remove_5 rfl (lv_at hl 1 rfl) ?_
  refine lv_if_ne (tgt := 19) hx hb dX9_remove_6 (by decide) (fun c_2 => absurd (by decide) c_2) (fun c_2 => ?_)
  exact fz_throw (cls := "java/lang/IllegalArgumentException") (text := "the root stays") (names := fz_EN) (ik := 69) (is := 91) (ic := 73) hx hb hl0 hown hts hG (fz_fit_73) ⟨fm_19, fm_20⟩ (by decide) fz_at_73 fz_ok_73 hS (hl.1.trans hml.symm) dX9_remove_9 dX9_remove_12 dX9_remove_13 dX9_remove_15 dX9_remove_18 ht hlocks ⟨Nat.le_of_ble_eq_true rfl, Nat.le_of_ble_eq_true rfl, Nat.le_of_ble_eq_true rfl, Nat.le_of_ble_eq_true rfl⟩ (Or.inr ⟨rfl, (fq_3 )⟩) ⟨Nat.le_of_ble_eq_true rfl, Nat.le_of_ble_eq_true rfl⟩

set_option maxHeartbeats 4000000 in
set_option maxRecDepth 100000 in
theorem c_move (l : Launch) (hl0 : l.stackTraces = false) (A : Nat → Prop) (D : va_G) (k : Nat → ClassId) (q : Nat → Nat) (f : Nat → Nat → Int32) (pa : Nat → Option Nat) (v : Nat → Int32) (p0 p1 : Int32) (g_v_1 : v 1 = 1) (g_f_4_0 : f 4 0 = 0)  :
    vx_Met l yX9_move (fz_ws yX9_move cX9_move 4 (some .int)) { frames := 24, cells := 3, slots := 18, locals := 320 } (va_Pc [.ref (q 31), .int p0, .int p1] (fz_PC A D (fz_tys k) (fz_WC k q f pa v))) (fz_QI D A (fun (_ : Unit) => ([] : va_W)) (fun (r : Int32) (_ : Unit) => False)) (fz_XC (fun E => (E = "java/lang/IndexOutOfBoundsException" ∧ (¬ (p0 = 0) ∨ ¬ (p1 = 0))) ∨ (E = "java/lang/IllegalArgumentException" ∧ (p0 = 0 ∧ p1 = 0))) A) 3 18 A := by
  refine fz_ofX (by decide +kernel) (Nat.le_of_ble_eq_true rfl) ?_
  intro p e s m below meth c hx hb hr hml hown hlocks hts ht hA hP hK hD hG hS ls hl
  have hown : s.vm.findClass RX9 = some m.cls := hown
  have S0 : CallFix p m c cX9_move 4 s [.ref (q 31), .int p0, .int p1].toArray (fz_ws yX9_move cX9_move 4 (some .int)) RX9 := ⟨hx, hb, hml, hown, hts⟩
  have hl : lv_has ls 4 [(0, .ref (q 31)), (1, .int p0), (2, .int p1)] := hl
  refine lv_aload_n hx hb dX9_move_0 rfl (lv_at hl 0 rfl) ?_
  refine lv_iload_n hx hb dX9_move_1 rfl (lv_at hl 1 rfl) ?_
  refine fz_xVv (As := [.int p0]) (rest := []) S0 (c_reqNode l hl0 A D k q f pa v p0 g_v_1 g_f_4_0) (fz_cwV (C := RX9) 1 hts fm_100 fm_101 fm_102 fm_103 fm_6 rfl rfl ⟨by decide, by decide, by decide +kernel⟩ ⟨Nat.le_of_ble_eq_true rfl, Nat.le_of_ble_eq_true rfl⟩) (va_recv hK hP (ci := 13) (q0 := 31) rfl rfl) (fun _ h9 => h9) (fun a9 h9 => hA a9 (Nat.le_trans hS.1 h9)) hG hS hP hK hD rfl hl.1 rfl (Nat.le_of_ble_eq_true rfl) dX9_move_2 ⟨Nat.le_of_ble_eq_true rfl, Nat.le_of_ble_eq_true rfl⟩ ht hlocks (fun E hE => by obtain ⟨rfl, h9⟩ := hE; exact (Or.inl ⟨rfl, (fq_38 p0 p1 h9)⟩)) ⟨Nat.le_of_ble_eq_true rfl, Nat.le_of_ble_eq_true rfl⟩ (fun u_1 H locs hw hz1 hk1 hP hS => ?_)
  have hP : va_P D vwCl (fz_WC k q f pa v) H := hP
  have hq_1 : p0 = 0 := hw
  obtain rfl : p0 = 0 := (fq_27 p0 hq_1)
  refine lv_aload_n hx hb dX9_move_5 rfl (lv_at hl 0 rfl) ?_
  refine lv_iload_n hx hb dX9_move_6 rfl (lv_at hl 2 rfl) ?_
  refine fz_xVv (As := [.int p1]) (rest := []) S0 (c_reqNode l hl0 A D k q f pa v p1 g_v_1 g_f_4_0) (fz_cwV (C := RX9) 1 hts fm_100 fm_101 fm_102 fm_103 fm_6 rfl rfl ⟨by decide, by decide, by decide +kernel⟩ ⟨Nat.le_of_ble_eq_true rfl, Nat.le_of_ble_eq_true rfl⟩) (va_recv hK hP (ci := 13) (q0 := 31) rfl rfl) (fun _ h9 => h9) (fun a9 h9 => hA a9 (Nat.le_trans hS.1 h9)) hG hS hP hK hD rfl hl.1 rfl (Nat.le_of_ble_eq_true rfl) dX9_move_7 ⟨Nat.le_of_ble_eq_true rfl, Nat.le_of_ble_eq_true rfl⟩ ht hlocks (fun E hE => by obtain ⟨rfl, h9⟩ := hE; exact (Or.inl ⟨rfl, (fq_39 p1 h9)⟩)) ⟨Nat.le_of_ble_eq_true rfl, Nat.le_of_ble_eq_true rfl⟩ (fun u_2 H locs hw hz1 hk1 hP hS => ?_)
  have hP : va_P D vwCl (fz_WC k q f pa v) H := hP
  have hq_2 : p1 = 0 := hw
  obtain rfl : p1 = 0 := (fq_27 p1 hq_2)
  refine lv_aload_n hx hb dX9_move_10 rfl (lv_at hl 0 rfl) ?_
  refine va_get (D := D) (ci := 13) (v := .ref (q 0)) (C := RX9) (T := TX9) (N := 8) hx hb hts (fun w9 h9 => fz_m (fin_X9 w9 h9)) hown hK hP 31 rfl rfl 0 (by decide) (hts _ (fz_m fm_9)) (fun _ h9 => h9) rfl dX9_move_11 ?_
  refine va_get (D := D) (ci := 11) (v := .ref (q 1)) (C := RX7) (T := TX7) (N := 6) hx hb hts (fun w9 h9 => fz_m (fin_X7 w9 h9)) hown hK hP 0 rfl rfl 0 (by decide) (hts _ (fz_m fm_10)) (fun _ h9 => h9) rfl dX9_move_14 ?_
  refine va_get (D := D) (ci := 12) (v := .ref (q 4)) (C := RX8) (T := TX8) (N := 10) hx hb hts (fun w9 h9 => fz_m (fin_X8 w9 h9)) hown hK hP 1 rfl rfl 4 (by decide) (hts _ (fz_m fm_104)) (fun _ h9 => h9) rfl dX9_move_17 ?_
  refine lv_iload_n hx hb dX9_move_20 rfl (lv_at hl 2 rfl) ?_
  refine va_iald hx hb hK hP 4 0 rfl rfl (fz_vin (by decide)) dX9_move_21 ?_
  refine fz_I (y := 0) g_f_4_0 ?_
  refine lv_aload_n hx hb dX9_move_22 rfl (lv_at hl 0 rfl) ?_
  refine va_get (D := D) (ci := 13) (v := .ref (q 0)) (C := RX9) (T := TX9) (N := 8) hx hb hts (fun w9 h9 => fz_m (fin_X9 w9 h9)) hown hK hP 31 rfl rfl 0 (by decide) (hts _ (fz_m fm_9)) (fun _ h9 => h9) rfl dX9_move_23 ?_
  refine va_get (D := D) (ci := 11) (v := .ref (q 1)) (C := RX7) (T := TX7) (N := 6) hx hb hts (fun w9 h9 => fz_m (fin_X7 w9 h9)) hown hK hP 0 rfl rfl 0 (by decide) (hts _ (fz_m fm_10)) (fun _ h9 => h9) rfl dX9_move_26 ?_
  refine va_get (D := D) (ci := 12) (v := .ref (q 4)) (C := RX8) (T := TX8) (N := 10) hx hb hts (fun w9 h9 => fz_m (fin_X8 w9 h9)) hown hK hP 1 rfl rfl 4 (by decide) (hts _ (fz_m fm_104)) (fun _ h9 => h9) rfl dX9_move_29 ?_
  refine lv_iload_n hx hb dX9_move_32 rfl (lv_at hl 1 rfl) ?_
  refine va_iald hx hb hK hP 4 0 rfl rfl (fz_vin (by decide)) dX9_move_33 ?_
  refine fz_I (y := 0) g_f_4_0 ?_
  refine lv_icmp_lt (tgt := 47) hx hb dX9_move_34 (by decide) (fun c_3 => absurd c_3 (by decide)) (fun c_3 => ?_)
  exact fz_throw (cls := "java/lang/IllegalArgumentException") (text := "the node cannot be moved there") (names := fz_EN) (ik := 69) (is := 100) (ic := 73) hx hb hl0 hown hts hG (fz_fit_73) ⟨fm_19, fm_20⟩ (by decide) fz_at_73 fz_ok_73 hS (hl.1.trans hml.symm) dX9_move_37 dX9_move_40 dX9_move_41 dX9_move_43 dX9_move_46 ht hlocks ⟨Nat.le_of_ble_eq_true rfl, Nat.le_of_ble_eq_true rfl, Nat.le_of_ble_eq_true rfl, Nat.le_of_ble_eq_true rfl⟩ (Or.inr ⟨rfl, (fq_40 )⟩) ⟨Nat.le_of_ble_eq_true rfl, Nat.le_of_ble_eq_true rfl⟩

set_option maxHeartbeats 4000000 in
set_option maxRecDepth 100000 in
theorem c_node (l : Launch) (hl0 : l.stackTraces = false) (A : Nat → Prop) (D : va_G) (k : Nat → ClassId) (q : Nat → Nat) (f : Nat → Nat → Int32) (pa : Nat → Option Nat) (v : Nat → Int32) (p0 p1 : Int32) (g_v_1 : v 1 = 1) (g_f_4_0 : f 4 0 = 0) (g_f_5_0 : f 5 0 = (-1)) (g_f_7_0 : f 7 0 = 0) (g_f_8_0 : f 8 0 = (-1)) (g_f_9_0 : f 9 0 = (-1)) (g_v_2 : v 2 = 1) (g_f_6_0 : f 6 0 = 0) (g_f_2_0 : f 2 0 = 0) (g_f_18_0 : f 18 0 = (-1)) (g_f_19_0 : f 19 0 = (-1)) (g_v_7 : v 7 = 0)  :
    vx_Met l yX9_node (fz_ws yX9_node cX9_node 4 (some .int)) { frames := 24, cells := 2, slots := 12, locals := 320 } (va_Pc [.ref (q 31), .int p0, .int p1] (fz_PC A D (fz_tys k) (fz_WC k q f pa v))) (fz_QI D A (fun (_ : Unit) => ([] : va_W)) (fun (r : Int32) (_ : Unit) => (r = 0 ∧ (p0 = 0 ∧ p1 = 0)) ∨ (r = (-1) ∧ (p0 = 0 ∧ p1 = 1)) ∨ (r = 0 ∧ (p0 = 0 ∧ p1 = 2)) ∨ (r = (-1) ∧ (p0 = 0 ∧ (3 ≤ p1 ∧ p1 ≤ 5))) ∨ (r = 0 ∧ (p0 = 0 ∧ (6 ≤ p1 ∧ p1 ≤ 8))) ∨ (r = (-1) ∧ (p0 = 0 ∧ (9 ≤ p1 ∧ p1 ≤ 10))) ∨ (r = 0 ∧ (p0 = 0 ∧ p1 = 11)))) (fz_XC (fun E => (E = "java/lang/IndexOutOfBoundsException" ∧ ¬ (p0 = 0)) ∨ (E = "java/lang/IllegalArgumentException" ∧ (p0 = 0 ∧ ¬ ((0 ≤ p1 ∧ p1 ≤ 11))))) A) 2 12 A := by
  refine fz_ofX (by decide +kernel) (Nat.le_of_ble_eq_true rfl) ?_
  intro p e s m below meth c hx hb hr hml hown hlocks hts ht hA hP hK hD hG hS ls hl
  have hown : s.vm.findClass RX9 = some m.cls := hown
  have S0 : CallFix p m c cX9_node 4 s [.ref (q 31), .int p0, .int p1].toArray (fz_ws yX9_node cX9_node 4 (some .int)) RX9 := ⟨hx, hb, hml, hown, hts⟩
  have hl : lv_has ls 4 [(0, .ref (q 31)), (1, .int p0), (2, .int p1)] := hl
  refine lv_aload_n hx hb dX9_node_0 rfl (lv_at hl 0 rfl) ?_
  refine lv_iload_n hx hb dX9_node_1 rfl (lv_at hl 1 rfl) ?_
  refine fz_xVv (As := [.int p0]) (rest := []) S0 (c_reqNode l hl0 A D k q f pa v p0 g_v_1 g_f_4_0) (fz_cwV (C := RX9) 1 hts fm_100 fm_101 fm_102 fm_103 fm_6 rfl rfl ⟨by decide, by decide, by decide +kernel⟩ ⟨Nat.le_of_ble_eq_true rfl, Nat.le_of_ble_eq_true rfl⟩) (va_recv hK hP (ci := 13) (q0 := 31) rfl rfl) (fun _ h9 => h9) (fun a9 h9 => hA a9 (Nat.le_trans hS.1 h9)) hG hS hP hK hD rfl hl.1 rfl (Nat.le_of_ble_eq_true rfl) dX9_node_2 ⟨Nat.le_of_ble_eq_true rfl, Nat.le_of_ble_eq_true rfl⟩ ht hlocks (fun E hE => by obtain ⟨rfl, h9⟩ := hE; exact (Or.inl ⟨rfl, (fq_28 p0 h9)⟩)) ⟨Nat.le_of_ble_eq_true rfl, Nat.le_of_ble_eq_true rfl⟩ (fun u_1 H locs hw hz1 hk1 hP hS => ?_)
  have hP : va_P D vwCl (fz_WC k q f pa v) H := hP
  have hq_1 : p0 = 0 := hw
  obtain rfl : p0 = 0 := (fq_27 p0 hq_1)
  refine lv_iload_n hx hb dX9_node_5 rfl (lv_at hl 2 rfl) ?_
  refine lv_bipush (v := 11) hx hb dX9_node_6 (by decide) ?_
  refine fz_xSv (As := [.int p1, .int 11]) (rest := []) S0 (c_reqPart l hl0 A D k q f pa v p1 11) (fz_cwS 2 hts fm_105 fm_106 fm_107 fm_6 rfl rfl ⟨by decide, by decide, by decide +kernel⟩ ⟨Nat.le_of_ble_eq_true rfl, Nat.le_of_ble_eq_true rfl⟩) (fun _ h9 => h9) (fun a9 h9 => hA a9 (Nat.le_trans hS.1 h9)) hG hS hP hK hD rfl hl.1 rfl (Nat.le_of_ble_eq_true rfl) dX9_node_8 ⟨Nat.le_of_ble_eq_true rfl, Nat.le_of_ble_eq_true rfl⟩ ht hlocks (fun E hE => by obtain ⟨rfl, h9⟩ := hE; exact (Or.inr ⟨rfl, (fq_41 p1 h9)⟩)) ⟨Nat.le_of_ble_eq_true rfl, Nat.le_of_ble_eq_true rfl⟩ (fun u_2 H locs hw hz1 hk1 hP hS => ?_)
  have hP : va_P D vwCl (fz_WC k q f pa v) H := hP
  have hq_2 : (0 ≤ p1 ∧ p1 ≤ 11) := hw
  refine lv_aload_n hx hb dX9_node_11 rfl (lv_at hl 0 rfl) ?_
  refine va_get (D := D) (ci := 13) (v := .ref (q 0)) (C := RX9) (T := TX9) (N := 8) hx hb hts (fun w9 h9 => fz_m (fin_X9 w9 h9)) hown hK hP 31 rfl rfl 0 (by decide) (hts _ (fz_m fm_9)) (fun _ h9 => h9) rfl dX9_node_12 ?_
  refine va_get (D := D) (ci := 11) (v := .ref (q 1)) (C := RX7) (T := TX7) (N := 6) hx hb hts (fun w9 h9 => fz_m (fin_X7 w9 h9)) hown hK hP 0 rfl rfl 0 (by decide) (hts _ (fz_m fm_10)) (fun _ h9 => h9) rfl dX9_node_15 ?_
  refine lv_astore_n (lv' := [(3, .ref (q 1)), (0, .ref (q 31)), (1, .int 0), (2, .int p1)]) hx hb dX9_node_18 rfl hl (by decide) rfl (fun ls hl => ?_)
  refine lv_iload_n hx hb dX9_node_19 rfl (lv_at hl 3 rfl) ?_
  by_cases c_3_0 : p1 = 0
  · subst c_3_0
    refine lv_tableIn (off := 60) (tgt := 80) hx hb dX9_node_20 (by decide) (by decide) rfl (by decide) ?_
    refine lv_aload_n hx hb dX9_node_80 rfl (lv_at hl 0 rfl) ?_
    refine va_get (D := D) (ci := 12) (v := .ref (q 4)) (C := RX8) (T := TX8) (N := 10) hx hb hts (fun w9 h9 => fz_m (fin_X8 w9 h9)) hown hK hP 1 rfl rfl 4 (by decide) (hts _ (fz_m fm_104)) (fun _ h9 => h9) rfl dX9_node_81 ?_
    refine lv_iload_n hx hb dX9_node_84 rfl (lv_at hl 2 rfl) ?_
    refine va_iald hx hb hK hP 4 0 rfl rfl (fz_vin (by decide)) dX9_node_85 ?_
    refine fz_I (y := 0) g_f_4_0 ?_
    have hP : va_P D vwCl [] H := fz_nil
    exact vx_ret (fz_iret hx hb hr rfl hlocks hS dX9_node_86 () (Or.inl ⟨rfl, (fq_40 )⟩) hP (Nat.le_of_ble_eq_true rfl) (Nat.le_of_ble_eq_true rfl))
  by_cases c_3_1 : p1 = 1
  · subst c_3_1
    refine lv_tableIn (off := 67) (tgt := 87) hx hb dX9_node_20 (by decide) (by decide) rfl (by decide) ?_
    refine lv_aload_n hx hb dX9_node_87 rfl (lv_at hl 0 rfl) ?_
    refine va_get (D := D) (ci := 12) (v := .ref (q 5)) (C := RX8) (T := TX8) (N := 10) hx hb hts (fun w9 h9 => fz_m (fin_X8 w9 h9)) hown hK hP 1 rfl rfl 5 (by decide) (hts _ (fz_m fm_108)) (fun _ h9 => h9) rfl dX9_node_88 ?_
    refine lv_iload_n hx hb dX9_node_91 rfl (lv_at hl 2 rfl) ?_
    refine va_iald hx hb hK hP 5 0 rfl rfl (fz_vin (by decide)) dX9_node_92 ?_
    refine fz_I (y := (-1)) g_f_5_0 ?_
    have hP : va_P D vwCl [] H := fz_nil
    exact vx_ret (fz_iret hx hb hr rfl hlocks hS dX9_node_93 () (Or.inr (Or.inl ⟨rfl, (fq_42 )⟩)) hP (Nat.le_of_ble_eq_true rfl) (Nat.le_of_ble_eq_true rfl))
  by_cases c_3_2 : p1 = 2
  · subst c_3_2
    refine lv_tableIn (off := 74) (tgt := 94) hx hb dX9_node_20 (by decide) (by decide) rfl (by decide) ?_
    refine lv_aload_n hx hb dX9_node_94 rfl (lv_at hl 0 rfl) ?_
    refine va_get (D := D) (ci := 12) (v := .ref (q 7)) (C := RX8) (T := TX8) (N := 10) hx hb hts (fun w9 h9 => fz_m (fin_X8 w9 h9)) hown hK hP 1 rfl rfl 7 (by decide) (hts _ (fz_m fm_18)) (fun _ h9 => h9) rfl dX9_node_95 ?_
    refine lv_iload_n hx hb dX9_node_98 rfl (lv_at hl 2 rfl) ?_
    refine va_iald hx hb hK hP 7 0 rfl rfl (fz_vin (by decide)) dX9_node_99 ?_
    refine fz_I (y := 0) g_f_7_0 ?_
    have hP : va_P D vwCl [] H := fz_nil
    exact vx_ret (fz_iret hx hb hr rfl hlocks hS dX9_node_100 () (Or.inr (Or.inr (Or.inl ⟨rfl, (fq_43 )⟩))) hP (Nat.le_of_ble_eq_true rfl) (Nat.le_of_ble_eq_true rfl))
  by_cases c_3_3 : p1 = 3
  · subst c_3_3
    refine lv_tableIn (off := 81) (tgt := 101) hx hb dX9_node_20 (by decide) (by decide) rfl (by decide) ?_
    refine lv_aload_n hx hb dX9_node_101 rfl (lv_at hl 0 rfl) ?_
    refine va_get (D := D) (ci := 12) (v := .ref (q 8)) (C := RX8) (T := TX8) (N := 10) hx hb hts (fun w9 h9 => fz_m (fin_X8 w9 h9)) hown hK hP 1 rfl rfl 8 (by decide) (hts _ (fz_m fm_109)) (fun _ h9 => h9) rfl dX9_node_102 ?_
    refine lv_iload_n hx hb dX9_node_105 rfl (lv_at hl 2 rfl) ?_
    refine va_iald hx hb hK hP 8 0 rfl rfl (fz_vin (by decide)) dX9_node_106 ?_
    refine fz_I (y := (-1)) g_f_8_0 ?_
    have hP : va_P D vwCl [] H := fz_nil
    exact vx_ret (fz_iret hx hb hr rfl hlocks hS dX9_node_107 () (Or.inr (Or.inr (Or.inr (Or.inl ⟨rfl, (fq_44 )⟩)))) hP (Nat.le_of_ble_eq_true rfl) (Nat.le_of_ble_eq_true rfl))
  by_cases c_3_4 : p1 = 4
  · subst c_3_4
    refine lv_tableIn (off := 88) (tgt := 108) hx hb dX9_node_20 (by decide) (by decide) rfl (by decide) ?_
    refine lv_aload_n hx hb dX9_node_108 rfl (lv_at hl 0 rfl) ?_
    refine va_get (D := D) (ci := 12) (v := .ref (q 9)) (C := RX8) (T := TX8) (N := 10) hx hb hts (fun w9 h9 => fz_m (fin_X8 w9 h9)) hown hK hP 1 rfl rfl 9 (by decide) (hts _ (fz_m fm_110)) (fun _ h9 => h9) rfl dX9_node_109 ?_
    refine lv_iload_n hx hb dX9_node_112 rfl (lv_at hl 2 rfl) ?_
    refine va_iald hx hb hK hP 9 0 rfl rfl (fz_vin (by decide)) dX9_node_113 ?_
    refine fz_I (y := (-1)) g_f_9_0 ?_
    have hP : va_P D vwCl [] H := fz_nil
    exact vx_ret (fz_iret hx hb hr rfl hlocks hS dX9_node_114 () (Or.inr (Or.inr (Or.inr (Or.inl ⟨rfl, (fq_45 )⟩)))) hP (Nat.le_of_ble_eq_true rfl) (Nat.le_of_ble_eq_true rfl))
  by_cases c_3_5 : p1 = 5
  · subst c_3_5
    refine lv_tableIn (off := 95) (tgt := 115) hx hb dX9_node_20 (by decide) (by decide) rfl (by decide) ?_
    refine lv_aload_n hx hb dX9_node_115 rfl (lv_at hl 0 rfl) ?_
    refine lv_iload_n hx hb dX9_node_116 rfl (lv_at hl 2 rfl) ?_
    refine fz_cVi (As := [.int 0]) (rest := []) S0 (c_latestDay l A D k q f pa v g_v_2 g_f_6_0 g_f_2_0 g_f_9_0) (fz_cwV (C := RX8) 1 hts fm_59 fm_111 fm_61 fm_62 fm_15 rfl rfl ⟨by decide, by decide, by decide +kernel⟩ ⟨Nat.le_of_ble_eq_true rfl, Nat.le_of_ble_eq_true rfl⟩) (va_recv hK hP (ci := 12) (q0 := 1) rfl rfl) (fun _ h9 => h9) (fun a9 h9 => hA a9 (Nat.le_trans hS.1 h9)) hG hS hP hK hD rfl hl.1 rfl (Nat.le_of_ble_eq_true rfl) dX9_node_117 ⟨Nat.le_of_ble_eq_true rfl, Nat.le_of_ble_eq_true rfl⟩ (fun r_4 u_4 H locs hw hz1 hk1 hP hS => ?_)
    have hP : va_P D vwCl (fz_WC k q f pa v) H := hP
    obtain rfl : r_4 = (-1) := hw
    have hP : va_P D vwCl [] H := fz_nil
    exact vx_ret (fz_iret hx hb hr rfl hlocks hS dX9_node_120 () (Or.inr (Or.inr (Or.inr (Or.inl ⟨rfl, (fq_46 )⟩)))) hP (Nat.le_of_ble_eq_true rfl) (Nat.le_of_ble_eq_true rfl))
  by_cases c_3_6 : p1 = 6
  · subst c_3_6
    refine lv_tableIn (off := 101) (tgt := 121) hx hb dX9_node_20 (by decide) (by decide) rfl (by decide) ?_
    refine lv_aload_n hx hb dX9_node_121 rfl (lv_at hl 0 rfl) ?_
    refine lv_iload_n hx hb dX9_node_122 rfl (lv_at hl 2 rfl) ?_
    refine fz_cVi (As := [.int 0]) (rest := []) S0 (c_countChildren l A D k q f pa v g_v_2 g_f_2_0 g_f_5_0) (fz_cwV (C := RX8) 1 hts fm_112 fm_113 fm_114 fm_115 fm_15 rfl rfl ⟨by decide, by decide, by decide +kernel⟩ ⟨Nat.le_of_ble_eq_true rfl, Nat.le_of_ble_eq_true rfl⟩) (va_recv hK hP (ci := 12) (q0 := 1) rfl rfl) (fun _ h9 => h9) (fun a9 h9 => hA a9 (Nat.le_trans hS.1 h9)) hG hS hP hK hD rfl hl.1 rfl (Nat.le_of_ble_eq_true rfl) dX9_node_123 ⟨Nat.le_of_ble_eq_true rfl, Nat.le_of_ble_eq_true rfl⟩ (fun r_5 u_5 H locs hw hz1 hk1 hP hS => ?_)
    have hP : va_P D vwCl (fz_WC k q f pa v) H := hP
    obtain rfl : r_5 = 0 := hw
    have hP : va_P D vwCl [] H := fz_nil
    exact vx_ret (fz_iret hx hb hr rfl hlocks hS dX9_node_126 () (Or.inr (Or.inr (Or.inr (Or.inr (Or.inl ⟨rfl, (fq_47 )⟩))))) hP (Nat.le_of_ble_eq_true rfl) (Nat.le_of_ble_eq_true rfl))
  by_cases c_3_7 : p1 = 7
  · subst c_3_7
    refine lv_tableIn (off := 107) (tgt := 127) hx hb dX9_node_20 (by decide) (by decide) rfl (by decide) ?_
    refine lv_aload_n hx hb dX9_node_127 rfl (lv_at hl 0 rfl) ?_
    refine va_get (D := D) (ci := 12) (v := .ref (q 6)) (C := RX8) (T := TX8) (N := 10) hx hb hts (fun w9 h9 => fz_m (fin_X8 w9 h9)) hown hK hP 1 rfl rfl 6 (by decide) (hts _ (fz_m fm_116)) (fun _ h9 => h9) rfl dX9_node_128 ?_
    refine lv_iload_n hx hb dX9_node_131 rfl (lv_at hl 2 rfl) ?_
    refine va_iald hx hb hK hP 6 0 rfl rfl (fz_vin (by decide)) dX9_node_132 ?_
    refine fz_I (y := 0) g_f_6_0 ?_
    have hP : va_P D vwCl [] H := fz_nil
    exact vx_ret (fz_iret hx hb hr rfl hlocks hS dX9_node_133 () (Or.inr (Or.inr (Or.inr (Or.inr (Or.inl ⟨rfl, (fq_48 )⟩))))) hP (Nat.le_of_ble_eq_true rfl) (Nat.le_of_ble_eq_true rfl))
  by_cases c_3_8 : p1 = 8
  · subst c_3_8
    refine lv_tableIn (off := 114) (tgt := 134) hx hb dX9_node_20 (by decide) (by decide) rfl (by decide) ?_
    refine lv_aload_n hx hb dX9_node_134 rfl (lv_at hl 0 rfl) ?_
    refine lv_iload_n hx hb dX9_node_135 rfl (lv_at hl 2 rfl) ?_
    refine fz_cVi (As := [.int 0]) (rest := []) S0 (c_countPages l A D k q f pa v g_v_2 g_f_6_0 g_f_2_0 g_f_7_0) (fz_cwV (C := RX8) 1 hts fm_117 fm_118 fm_119 fm_120 fm_15 rfl rfl ⟨by decide, by decide, by decide +kernel⟩ ⟨Nat.le_of_ble_eq_true rfl, Nat.le_of_ble_eq_true rfl⟩) (va_recv hK hP (ci := 12) (q0 := 1) rfl rfl) (fun _ h9 => h9) (fun a9 h9 => hA a9 (Nat.le_trans hS.1 h9)) hG hS hP hK hD rfl hl.1 rfl (Nat.le_of_ble_eq_true rfl) dX9_node_136 ⟨Nat.le_of_ble_eq_true rfl, Nat.le_of_ble_eq_true rfl⟩ (fun r_6 u_6 H locs hw hz1 hk1 hP hS => ?_)
    have hP : va_P D vwCl (fz_WC k q f pa v) H := hP
    obtain rfl : r_6 = 0 := hw
    have hP : va_P D vwCl [] H := fz_nil
    exact vx_ret (fz_iret hx hb hr rfl hlocks hS dX9_node_139 () (Or.inr (Or.inr (Or.inr (Or.inr (Or.inl ⟨rfl, (fq_49 )⟩))))) hP (Nat.le_of_ble_eq_true rfl) (Nat.le_of_ble_eq_true rfl))
  by_cases c_3_9 : p1 = 9
  · subst c_3_9
    refine lv_tableIn (off := 120) (tgt := 140) hx hb dX9_node_20 (by decide) (by decide) rfl (by decide) ?_
    refine lv_aload_n hx hb dX9_node_140 rfl (lv_at hl 1 rfl) ?_
    refine va_get (D := D) (ci := 13) (v := .ref (q 0)) (C := RX9) (T := TX9) (N := 8) hx hb hts (fun w9 h9 => fz_m (fin_X9 w9 h9)) hown hK hP 31 rfl rfl 0 (by decide) (hts _ (fz_m fm_9)) (fun _ h9 => h9) rfl dX9_node_141 ?_
    refine va_get (D := D) (ci := 11) (v := .ref (q 14)) (C := RX7) (T := TX7) (N := 6) hx hb hts (fun w9 h9 => fz_m (fin_X7 w9 h9)) hown hK hP 0 rfl rfl 2 (by decide) (hts _ (fz_m fm_21)) (fun _ h9 => h9) rfl dX9_node_144 ?_
    refine va_get (D := D) (ci := 4) (v := .ref (q 18)) (C := RX0) (T := TX0) (N := 9) hx hb hts (fun w9 h9 => fz_m (fin_X0 w9 h9)) hown hK hP 14 rfl rfl 6 (by decide) (hts _ (fz_m fm_121)) (fun _ h9 => h9) rfl dX9_node_147 ?_
    refine lv_iload_n hx hb dX9_node_150 rfl (lv_at hl 2 rfl) ?_
    refine va_iald hx hb hK hP 18 0 rfl rfl (fz_vin (by decide)) dX9_node_151 ?_
    refine fz_I (y := (-1)) g_f_18_0 ?_
    have hP : va_P D vwCl [] H := fz_nil
    exact vx_ret (fz_iret hx hb hr rfl hlocks hS dX9_node_152 () (Or.inr (Or.inr (Or.inr (Or.inr (Or.inr (Or.inl ⟨rfl, (fq_50 )⟩)))))) hP (Nat.le_of_ble_eq_true rfl) (Nat.le_of_ble_eq_true rfl))
  by_cases c_3_10 : p1 = 10
  · subst c_3_10
    refine lv_tableIn (off := 133) (tgt := 153) hx hb dX9_node_20 (by decide) (by decide) rfl (by decide) ?_
    refine lv_aload_n hx hb dX9_node_153 rfl (lv_at hl 1 rfl) ?_
    refine va_get (D := D) (ci := 13) (v := .ref (q 0)) (C := RX9) (T := TX9) (N := 8) hx hb hts (fun w9 h9 => fz_m (fin_X9 w9 h9)) hown hK hP 31 rfl rfl 0 (by decide) (hts _ (fz_m fm_9)) (fun _ h9 => h9) rfl dX9_node_154 ?_
    refine va_get (D := D) (ci := 11) (v := .ref (q 14)) (C := RX7) (T := TX7) (N := 6) hx hb hts (fun w9 h9 => fz_m (fin_X7 w9 h9)) hown hK hP 0 rfl rfl 2 (by decide) (hts _ (fz_m fm_21)) (fun _ h9 => h9) rfl dX9_node_157 ?_
    refine va_get (D := D) (ci := 4) (v := .ref (q 19)) (C := RX0) (T := TX0) (N := 9) hx hb hts (fun w9 h9 => fz_m (fin_X0 w9 h9)) hown hK hP 14 rfl rfl 7 (by decide) (hts _ (fz_m fm_122)) (fun _ h9 => h9) rfl dX9_node_160 ?_
    refine lv_iload_n hx hb dX9_node_163 rfl (lv_at hl 2 rfl) ?_
    refine va_iald hx hb hK hP 19 0 rfl rfl (fz_vin (by decide)) dX9_node_164 ?_
    refine fz_I (y := (-1)) g_f_19_0 ?_
    have hP : va_P D vwCl [] H := fz_nil
    exact vx_ret (fz_iret hx hb hr rfl hlocks hS dX9_node_165 () (Or.inr (Or.inr (Or.inr (Or.inr (Or.inr (Or.inl ⟨rfl, (fq_51 )⟩)))))) hP (Nat.le_of_ble_eq_true rfl) (Nat.le_of_ble_eq_true rfl))
  obtain rfl : p1 = 11 := (fq_52 p1 hq_2 c_3_0 c_3_1 c_3_2 c_3_3 c_3_4 c_3_5 c_3_6 c_3_7 c_3_8 c_3_9 c_3_10)
  refine lv_tableOut (tgt := 166) hx hb dX9_node_20 (by decide) (by decide) ?_
  refine lv_aload_n hx hb dX9_node_166 rfl (lv_at hl 1 rfl) ?_
  refine va_get (D := D) (ci := 13) (v := .ref (q 0)) (C := RX9) (T := TX9) (N := 8) hx hb hts (fun w9 h9 => fz_m (fin_X9 w9 h9)) hown hK hP 31 rfl rfl 0 (by decide) (hts _ (fz_m fm_9)) (fun _ h9 => h9) rfl dX9_node_167 ?_
  refine va_get (D := D) (ci := 11) (v := .ref (q 23)) (C := RX7) (T := TX7) (N := 6) hx hb hts (fun w9 h9 => fz_m (fin_X7 w9 h9)) hown hK hP 0 rfl rfl 3 (by decide) (hts _ (fz_m fm_27)) (fun _ h9 => h9) rfl dX9_node_170 ?_
  refine lv_iload_n hx hb dX9_node_173 rfl (lv_at hl 2 rfl) ?_
  refine fz_cVi (As := [.int 0]) (rest := []) S0 (c_countOf l A D k q f pa v 0 g_v_7) (fz_cwV (C := RX1) 1 hts fm_69 fm_123 fm_71 fm_72 fm_32 rfl rfl ⟨by decide, by decide, by decide +kernel⟩ ⟨Nat.le_of_ble_eq_true rfl, Nat.le_of_ble_eq_true rfl⟩) (va_recv hK hP (ci := 5) (q0 := 23) rfl rfl) (fun _ h9 => h9) (fun a9 h9 => hA a9 (Nat.le_trans hS.1 h9)) hG hS hP hK hD rfl hl.1 rfl (Nat.le_of_ble_eq_true rfl) dX9_node_174 ⟨Nat.le_of_ble_eq_true rfl, Nat.le_of_ble_eq_true rfl⟩ (fun r_7 u_7 H locs hw hz1 hk1 hP hS => ?_)
  have hP : va_P D vwCl (fz_WC k q f pa v) H := hP
  obtain rfl : r_7 = 0 := hw
  have hP : va_P D vwCl [] H := fz_nil
  exact vx_ret (fz_iret hx hb hr rfl hlocks hS dX9_node_177 () (Or.inr (Or.inr (Or.inr (Or.inr (Or.inr (Or.inr ⟨rfl, (fq_53 )⟩)))))) hP (Nat.le_of_ble_eq_true rfl) (Nat.le_of_ble_eq_true rfl))

set_option maxHeartbeats 4000000 in
set_option maxRecDepth 100000 in
theorem c_child (l : Launch) (hl0 : l.stackTraces = false) (A : Nat → Prop) (D : va_G) (k : Nat → ClassId) (q : Nat → Nat) (f : Nat → Nat → Int32) (pa : Nat → Option Nat) (v : Nat → Int32) (p0 p1 : Int32) (g_v_1 : v 1 = 1) (g_f_4_0 : f 4 0 = 0) (g_v_2 : v 2 = 1) (g_f_2_0 : f 2 0 = 0) (g_f_5_0 : f 5 0 = (-1))  :
    vx_Met l yX9_child (fz_ws yX9_child cX9_child 4 (some .int)) { frames := 24, cells := 2, slots := 12, locals := 320 } (va_Pc [.ref (q 31), .int p0, .int p1] (fz_PC A D (fz_tys k) (fz_WC k q f pa v))) (fz_QI D A (fun (_ : Unit) => ([] : va_W)) (fun (r : Int32) (_ : Unit) => False)) (fz_XC (fun E => (E = "java/lang/IndexOutOfBoundsException" ∧ True)) A) 2 12 A := by
  refine fz_ofX (by decide +kernel) (Nat.le_of_ble_eq_true rfl) ?_
  intro p e s m below meth c hx hb hr hml hown hlocks hts ht hA hP hK hD hG hS ls hl
  have hown : s.vm.findClass RX9 = some m.cls := hown
  have S0 : CallFix p m c cX9_child 4 s [.ref (q 31), .int p0, .int p1].toArray (fz_ws yX9_child cX9_child 4 (some .int)) RX9 := ⟨hx, hb, hml, hown, hts⟩
  have hl : lv_has ls 4 [(0, .ref (q 31)), (1, .int p0), (2, .int p1)] := hl
  refine lv_aload_n hx hb dX9_child_0 rfl (lv_at hl 0 rfl) ?_
  refine lv_iload_n hx hb dX9_child_1 rfl (lv_at hl 1 rfl) ?_
  refine fz_xVv (As := [.int p0]) (rest := []) S0 (c_reqNode l hl0 A D k q f pa v p0 g_v_1 g_f_4_0) (fz_cwV (C := RX9) 1 hts fm_100 fm_101 fm_102 fm_103 fm_6 rfl rfl ⟨by decide, by decide, by decide +kernel⟩ ⟨Nat.le_of_ble_eq_true rfl, Nat.le_of_ble_eq_true rfl⟩) (va_recv hK hP (ci := 13) (q0 := 31) rfl rfl) (fun _ h9 => h9) (fun a9 h9 => hA a9 (Nat.le_trans hS.1 h9)) hG hS hP hK hD rfl hl.1 rfl (Nat.le_of_ble_eq_true rfl) dX9_child_2 ⟨Nat.le_of_ble_eq_true rfl, Nat.le_of_ble_eq_true rfl⟩ ht hlocks (fun E hE => by obtain ⟨rfl, h9⟩ := hE; exact ⟨rfl, trivial⟩) ⟨Nat.le_of_ble_eq_true rfl, Nat.le_of_ble_eq_true rfl⟩ (fun u_1 H locs hw hz1 hk1 hP hS => ?_)
  have hP : va_P D vwCl (fz_WC k q f pa v) H := hP
  have hq_1 : p0 = 0 := hw
  obtain rfl : p0 = 0 := (fq_27 p0 hq_1)
  refine lv_aload_n hx hb dX9_child_5 rfl (lv_at hl 0 rfl) ?_
  refine va_get (D := D) (ci := 13) (v := .ref (q 0)) (C := RX9) (T := TX9) (N := 8) hx hb hts (fun w9 h9 => fz_m (fin_X9 w9 h9)) hown hK hP 31 rfl rfl 0 (by decide) (hts _ (fz_m fm_9)) (fun _ h9 => h9) rfl dX9_child_6 ?_
  refine va_get (D := D) (ci := 11) (v := .ref (q 1)) (C := RX7) (T := TX7) (N := 6) hx hb hts (fun w9 h9 => fz_m (fin_X7 w9 h9)) hown hK hP 0 rfl rfl 0 (by decide) (hts _ (fz_m fm_10)) (fun _ h9 => h9) rfl dX9_child_9 ?_
  refine lv_iload_n hx hb dX9_child_12 rfl (lv_at hl 1 rfl) ?_
  refine lv_iload_n hx hb dX9_child_13 rfl (lv_at hl 2 rfl) ?_
  refine fz_cVi (As := [.int 0, .int p1]) (rest := []) S0 (c_findChild l A D k q f pa v p1 g_v_2 g_f_2_0 g_f_5_0) (fz_cwV (C := RX8) 2 hts fm_124 fm_125 fm_126 fm_127 fm_15 rfl rfl ⟨by decide, by decide, by decide +kernel⟩ ⟨Nat.le_of_ble_eq_true rfl, Nat.le_of_ble_eq_true rfl⟩) (va_recv hK hP (ci := 12) (q0 := 1) rfl rfl) (fun _ h9 => h9) (fun a9 h9 => hA a9 (Nat.le_trans hS.1 h9)) hG hS hP hK hD rfl hl.1 rfl (Nat.le_of_ble_eq_true rfl) dX9_child_14 ⟨Nat.le_of_ble_eq_true rfl, Nat.le_of_ble_eq_true rfl⟩ (fun r_2 u_2 H locs hw hz1 hk1 hP hS => ?_)
  have hP : va_P D vwCl (fz_WC k q f pa v) H := hP
  obtain rfl : r_2 = (-1) := hw
  refine lv_istore_n (lv' := [(3, .int (-1)), (0, .ref (q 31)), (1, .int 0), (2, .int p1)]) hx hb dX9_child_17 rfl hl (by decide) rfl (fun ls hl => ?_)
  refine lv_iload_n hx hb dX9_child_18 rfl (lv_at hl 0 rfl) ?_
  refine lv_iconst (v := (-1)) hx hb dX9_child_19 (by decide) ?_
  refine lv_icmp_ne (tgt := 33) hx hb dX9_child_20 (by decide) (fun c_3 => absurd (by decide) c_3) (fun c_3 => ?_)
  exact fz_throw (cls := "java/lang/IndexOutOfBoundsException") (text := "no such child") (names := fz_EN) (ik := 161) (is := 163) (ic := 165) hx hb hl0 hown hts hG (fz_fit_165) ⟨fm_16, fm_17⟩ (by decide) fz_at_165 fz_ok_165 hS (hl.1.trans hml.symm) dX9_child_23 dX9_child_26 dX9_child_27 dX9_child_29 dX9_child_32 ht hlocks ⟨Nat.le_of_ble_eq_true rfl, Nat.le_of_ble_eq_true rfl, Nat.le_of_ble_eq_true rfl, Nat.le_of_ble_eq_true rfl⟩ ⟨rfl, trivial⟩ ⟨Nat.le_of_ble_eq_true rfl, Nat.le_of_ble_eq_true rfl⟩

set_option maxHeartbeats 4000000 in
set_option maxRecDepth 100000 in
theorem c_restriction (l : Launch) (hl0 : l.stackTraces = false) (A : Nat → Prop) (D : va_G) (k : Nat → ClassId) (q : Nat → Nat) (f : Nat → Nat → Int32) (pa : Nat → Option Nat) (v : Nat → Int32) (p0 p1 : Int32) (g_v_1 : v 1 = 1) (g_f_4_0 : f 4 0 = 0) (g_f_11_0 : f 11 0 = (-1)) (g_f_5_0 : f 5 0 = (-1)) (g_v_2 : v 2 = 1) (g_f_6_0 : f 6 0 = 0) (g_f_2_0 : f 2 0 = 0) (g_f_9_0 : f 9 0 = (-1))  :
    vx_Met l yX9_restriction (fz_ws yX9_restriction cX9_restriction 3 (some .int)) { frames := 36, cells := 2, slots := 12, locals := 480 } (va_Pc [.ref (q 31), .int p0, .int p1] (fz_PC A D (fz_tys k) (fz_WC k q f pa v))) (fz_QI D A (fun (_ : Unit) => ([] : va_W)) (fun (r : Int32) (_ : Unit) => (r = 0 ∧ (p0 = 0 ∧ p1 = 0)) ∨ (r = (-1) ∧ (p0 = 0 ∧ (1 ≤ p1 ∧ p1 ≤ 2))))) (fz_XC (fun E => (E = "java/lang/IndexOutOfBoundsException" ∧ ¬ (p0 = 0)) ∨ (E = "java/lang/IllegalArgumentException" ∧ (p0 = 0 ∧ ¬ ((0 ≤ p1 ∧ p1 ≤ 2))))) A) 2 12 A := by
  refine fz_ofX (by decide +kernel) (Nat.le_of_ble_eq_true rfl) ?_
  intro p e s m below meth c hx hb hr hml hown hlocks hts ht hA hP hK hD hG hS ls hl
  have hown : s.vm.findClass RX9 = some m.cls := hown
  have S0 : CallFix p m c cX9_restriction 3 s [.ref (q 31), .int p0, .int p1].toArray (fz_ws yX9_restriction cX9_restriction 3 (some .int)) RX9 := ⟨hx, hb, hml, hown, hts⟩
  have hl : lv_has ls 3 [(0, .ref (q 31)), (1, .int p0), (2, .int p1)] := hl
  refine lv_aload_n hx hb dX9_restriction_0 rfl (lv_at hl 0 rfl) ?_
  refine lv_iload_n hx hb dX9_restriction_1 rfl (lv_at hl 1 rfl) ?_
  refine fz_xVv (As := [.int p0]) (rest := []) S0 (c_reqNode l hl0 A D k q f pa v p0 g_v_1 g_f_4_0) (fz_cwV (C := RX9) 1 hts fm_100 fm_101 fm_102 fm_103 fm_6 rfl rfl ⟨by decide, by decide, by decide +kernel⟩ ⟨Nat.le_of_ble_eq_true rfl, Nat.le_of_ble_eq_true rfl⟩) (va_recv hK hP (ci := 13) (q0 := 31) rfl rfl) (fun _ h9 => h9) (fun a9 h9 => hA a9 (Nat.le_trans hS.1 h9)) hG hS hP hK hD rfl hl.1 rfl (Nat.le_of_ble_eq_true rfl) dX9_restriction_2 ⟨Nat.le_of_ble_eq_true rfl, Nat.le_of_ble_eq_true rfl⟩ ht hlocks (fun E hE => by obtain ⟨rfl, h9⟩ := hE; exact (Or.inl ⟨rfl, (fq_28 p0 h9)⟩)) ⟨Nat.le_of_ble_eq_true rfl, Nat.le_of_ble_eq_true rfl⟩ (fun u_1 H locs hw hz1 hk1 hP hS => ?_)
  have hP : va_P D vwCl (fz_WC k q f pa v) H := hP
  have hq_1 : p0 = 0 := hw
  obtain rfl : p0 = 0 := (fq_27 p0 hq_1)
  refine lv_iload_n hx hb dX9_restriction_5 rfl (lv_at hl 2 rfl) ?_
  refine lv_iconst (v := 2) hx hb dX9_restriction_6 (by decide) ?_
  refine fz_xSv (As := [.int p1, .int 2]) (rest := []) S0 (c_reqPart l hl0 A D k q f pa v p1 2) (fz_cwS 2 hts fm_105 fm_106 fm_107 fm_6 rfl rfl ⟨by decide, by decide, by decide +kernel⟩ ⟨Nat.le_of_ble_eq_true rfl, Nat.le_of_ble_eq_true rfl⟩) (fun _ h9 => h9) (fun a9 h9 => hA a9 (Nat.le_trans hS.1 h9)) hG hS hP hK hD rfl hl.1 rfl (Nat.le_of_ble_eq_true rfl) dX9_restriction_7 ⟨Nat.le_of_ble_eq_true rfl, Nat.le_of_ble_eq_true rfl⟩ ht hlocks (fun E hE => by obtain ⟨rfl, h9⟩ := hE; exact (Or.inr ⟨rfl, (fq_54 p1 h9)⟩)) ⟨Nat.le_of_ble_eq_true rfl, Nat.le_of_ble_eq_true rfl⟩ (fun u_2 H locs hw hz1 hk1 hP hS => ?_)
  have hP : va_P D vwCl (fz_WC k q f pa v) H := hP
  have hq_2 : (0 ≤ p1 ∧ p1 ≤ 2) := hw
  refine lv_iload_n hx hb dX9_restriction_10 rfl (lv_at hl 2 rfl) ?_
  by_cases c_3_0 : p1 = 0
  · subst c_3_0
    refine lv_lookup (off := 25) (tgt := 36) hx hb dX9_restriction_11 (by decide) (by decide) (by decide) ?_
    refine lv_aload_n hx hb dX9_restriction_36 rfl (lv_at hl 0 rfl) ?_
    refine va_get (D := D) (ci := 13) (v := .ref (q 0)) (C := RX9) (T := TX9) (N := 8) hx hb hts (fun w9 h9 => fz_m (fin_X9 w9 h9)) hown hK hP 31 rfl rfl 0 (by decide) (hts _ (fz_m fm_9)) (fun _ h9 => h9) rfl dX9_restriction_37 ?_
    refine va_get (D := D) (ci := 11) (v := .ref (q 10)) (C := RX7) (T := TX7) (N := 6) hx hb hts (fun w9 h9 => fz_m (fin_X7 w9 h9)) hown hK hP 0 rfl rfl 1 (by decide) (hts _ (fz_m fm_128)) (fun _ h9 => h9) rfl dX9_restriction_40 ?_
    refine lv_aload_n hx hb dX9_restriction_43 rfl (lv_at hl 0 rfl) ?_
    refine va_get (D := D) (ci := 13) (v := .ref (q 0)) (C := RX9) (T := TX9) (N := 8) hx hb hts (fun w9 h9 => fz_m (fin_X9 w9 h9)) hown hK hP 31 rfl rfl 0 (by decide) (hts _ (fz_m fm_9)) (fun _ h9 => h9) rfl dX9_restriction_44 ?_
    refine va_get (D := D) (ci := 11) (v := .ref (q 1)) (C := RX7) (T := TX7) (N := 6) hx hb hts (fun w9 h9 => fz_m (fin_X7 w9 h9)) hown hK hP 0 rfl rfl 0 (by decide) (hts _ (fz_m fm_10)) (fun _ h9 => h9) rfl dX9_restriction_47 ?_
    refine lv_iload_n hx hb dX9_restriction_50 rfl (lv_at hl 1 rfl) ?_
    refine fz_cVi (As := [.ref (q 1), .int 0]) (rest := []) S0 (c_term l A D k q f pa v g_f_11_0 g_f_5_0) (fz_cwV (C := RX6) 2 hts fm_55 fm_129 fm_57 fm_58 fm_54 rfl rfl ⟨by decide, by decide, by decide +kernel⟩ ⟨Nat.le_of_ble_eq_true rfl, Nat.le_of_ble_eq_true rfl⟩) (va_recv hK hP (ci := 10) (q0 := 10) rfl rfl) (fun _ h9 => h9) (fun a9 h9 => hA a9 (Nat.le_trans hS.1 h9)) hG hS hP hK hD rfl hl.1 rfl (Nat.le_of_ble_eq_true rfl) dX9_restriction_51 ⟨Nat.le_of_ble_eq_true rfl, Nat.le_of_ble_eq_true rfl⟩ (fun r_4 u_4 H locs hw hz1 hk1 hP hS => ?_)
    have hP : va_P D vwCl (fz_WC k q f pa v) H := hP
    obtain rfl : r_4 = 0 := hw
    have hP : va_P D vwCl [] H := fz_nil
    exact vx_ret (fz_iret hx hb hr rfl hlocks hS dX9_restriction_54 () (Or.inl ⟨rfl, (fq_40 )⟩) hP (Nat.le_of_ble_eq_true rfl) (Nat.le_of_ble_eq_true rfl))
  by_cases c_3_1 : p1 = 1
  · subst c_3_1
    refine lv_lookup (off := 44) (tgt := 55) hx hb dX9_restriction_11 (by decide) (by decide) (by decide) ?_
    refine lv_aload_n hx hb dX9_restriction_55 rfl (lv_at hl 0 rfl) ?_
    refine va_get (D := D) (ci := 13) (v := .ref (q 0)) (C := RX9) (T := TX9) (N := 8) hx hb hts (fun w9 h9 => fz_m (fin_X9 w9 h9)) hown hK hP 31 rfl rfl 0 (by decide) (hts _ (fz_m fm_9)) (fun _ h9 => h9) rfl dX9_restriction_56 ?_
    refine va_get (D := D) (ci := 11) (v := .ref (q 10)) (C := RX7) (T := TX7) (N := 6) hx hb hts (fun w9 h9 => fz_m (fin_X7 w9 h9)) hown hK hP 0 rfl rfl 1 (by decide) (hts _ (fz_m fm_128)) (fun _ h9 => h9) rfl dX9_restriction_59 ?_
    refine lv_aload_n hx hb dX9_restriction_62 rfl (lv_at hl 0 rfl) ?_
    refine va_get (D := D) (ci := 13) (v := .ref (q 0)) (C := RX9) (T := TX9) (N := 8) hx hb hts (fun w9 h9 => fz_m (fin_X9 w9 h9)) hown hK hP 31 rfl rfl 0 (by decide) (hts _ (fz_m fm_9)) (fun _ h9 => h9) rfl dX9_restriction_63 ?_
    refine va_get (D := D) (ci := 11) (v := .ref (q 1)) (C := RX7) (T := TX7) (N := 6) hx hb hts (fun w9 h9 => fz_m (fin_X7 w9 h9)) hown hK hP 0 rfl rfl 0 (by decide) (hts _ (fz_m fm_10)) (fun _ h9 => h9) rfl dX9_restriction_66 ?_
    refine lv_iload_n hx hb dX9_restriction_69 rfl (lv_at hl 1 rfl) ?_
    refine fz_cVi (As := [.ref (q 1), .int 0]) (rest := []) S0 (c_deciding l A D k q f pa v g_f_11_0 g_f_5_0) (fz_cwV (C := RX6) 2 hts fm_50 fm_130 fm_52 fm_53 fm_54 rfl rfl ⟨by decide, by decide, by decide +kernel⟩ ⟨Nat.le_of_ble_eq_true rfl, Nat.le_of_ble_eq_true rfl⟩) (va_recv hK hP (ci := 10) (q0 := 10) rfl rfl) (fun _ h9 => h9) (fun a9 h9 => hA a9 (Nat.le_trans hS.1 h9)) hG hS hP hK hD rfl hl.1 rfl (Nat.le_of_ble_eq_true rfl) dX9_restriction_70 ⟨Nat.le_of_ble_eq_true rfl, Nat.le_of_ble_eq_true rfl⟩ (fun r_5 u_5 H locs hw hz1 hk1 hP hS => ?_)
    have hP : va_P D vwCl (fz_WC k q f pa v) H := hP
    obtain rfl : r_5 = (-1) := hw
    have hP : va_P D vwCl [] H := fz_nil
    exact vx_ret (fz_iret hx hb hr rfl hlocks hS dX9_restriction_73 () (Or.inr ⟨rfl, (fq_55 )⟩) hP (Nat.le_of_ble_eq_true rfl) (Nat.le_of_ble_eq_true rfl))
  obtain rfl : p1 = 2 := (fq_56 p1 hq_2 c_3_0 c_3_1)
  refine lv_lookup (off := 63) (tgt := 74) hx hb dX9_restriction_11 (by decide) (by decide) (by decide) ?_
  refine lv_aload_n hx hb dX9_restriction_74 rfl (lv_at hl 0 rfl) ?_
  refine va_get (D := D) (ci := 13) (v := .ref (q 0)) (C := RX9) (T := TX9) (N := 8) hx hb hts (fun w9 h9 => fz_m (fin_X9 w9 h9)) hown hK hP 31 rfl rfl 0 (by decide) (hts _ (fz_m fm_9)) (fun _ h9 => h9) rfl dX9_restriction_75 ?_
  refine va_get (D := D) (ci := 11) (v := .ref (q 10)) (C := RX7) (T := TX7) (N := 6) hx hb hts (fun w9 h9 => fz_m (fin_X7 w9 h9)) hown hK hP 0 rfl rfl 1 (by decide) (hts _ (fz_m fm_128)) (fun _ h9 => h9) rfl dX9_restriction_78 ?_
  refine lv_aload_n hx hb dX9_restriction_81 rfl (lv_at hl 0 rfl) ?_
  refine va_get (D := D) (ci := 13) (v := .ref (q 0)) (C := RX9) (T := TX9) (N := 8) hx hb hts (fun w9 h9 => fz_m (fin_X9 w9 h9)) hown hK hP 31 rfl rfl 0 (by decide) (hts _ (fz_m fm_9)) (fun _ h9 => h9) rfl dX9_restriction_82 ?_
  refine va_get (D := D) (ci := 11) (v := .ref (q 1)) (C := RX7) (T := TX7) (N := 6) hx hb hts (fun w9 h9 => fz_m (fin_X7 w9 h9)) hown hK hP 0 rfl rfl 0 (by decide) (hts _ (fz_m fm_10)) (fun _ h9 => h9) rfl dX9_restriction_85 ?_
  refine lv_iload_n hx hb dX9_restriction_88 rfl (lv_at hl 1 rfl) ?_
  refine fz_cVi (As := [.ref (q 1), .int 0]) (rest := []) S0 (c_lastClosedDay l A D k q f pa v g_f_11_0 g_f_5_0 g_v_2 g_f_6_0 g_f_2_0 g_f_9_0) (fz_cwV (C := RX6) 2 hts fm_131 fm_132 fm_133 fm_134 fm_54 rfl rfl ⟨by decide, by decide, by decide +kernel⟩ ⟨Nat.le_of_ble_eq_true rfl, Nat.le_of_ble_eq_true rfl⟩) (va_recv hK hP (ci := 10) (q0 := 10) rfl rfl) (fun _ h9 => h9) (fun a9 h9 => hA a9 (Nat.le_trans hS.1 h9)) hG hS hP hK hD rfl hl.1 rfl (Nat.le_of_ble_eq_true rfl) dX9_restriction_89 ⟨Nat.le_of_ble_eq_true rfl, Nat.le_of_ble_eq_true rfl⟩ (fun r_6 u_6 H locs hw hz1 hk1 hP hS => ?_)
  have hP : va_P D vwCl (fz_WC k q f pa v) H := hP
  obtain rfl : r_6 = (-1) := hw
  have hP : va_P D vwCl [] H := fz_nil
  exact vx_ret (fz_iret hx hb hr rfl hlocks hS dX9_restriction_92 () (Or.inr ⟨rfl, (fq_57 )⟩) hP (Nat.le_of_ble_eq_true rfl) (Nat.le_of_ble_eq_true rfl))

set_option maxHeartbeats 4000000 in
set_option maxRecDepth 100000 in
theorem c_openPages (l : Launch) (hl0 : l.stackTraces = false) (A : Nat → Prop) (D : va_G) (k : Nat → ClassId) (q : Nat → Nat) (f : Nat → Nat → Int32) (pa : Nat → Option Nat) (v : Nat → Int32) (p0 p1 : Int32) (g_v_1 : v 1 = 1) (g_f_4_0 : f 4 0 = 0) (g_f_7_0 : f 7 0 = 0)  :
    vx_Met l yX9_openPages (fz_ws yX9_openPages cX9_openPages 3 (some .int)) { frames := 24, cells := 2, slots := 12, locals := 320 } (va_Pc [.ref (q 31), .int p0, .int p1] (fz_PC A D (fz_tys k) (fz_WC k q f pa v))) (fz_QI D A (fun (_ : Unit) => ([] : va_W)) (fun (r : Int32) (_ : Unit) => r = 0 ∧ (p0 = 0 ∧ (0 ≤ p1 ∧ p1 ≤ 9999)))) (fz_XC (fun E => (E = "java/lang/IndexOutOfBoundsException" ∧ ¬ (p0 = 0)) ∨ (E = "java/lang/IllegalArgumentException" ∧ (p0 = 0 ∧ ¬ ((0 ≤ p1 ∧ p1 ≤ 9999))))) A) 2 12 A := by
  refine fz_ofX (by decide +kernel) (Nat.le_of_ble_eq_true rfl) ?_
  intro p e s m below meth c hx hb hr hml hown hlocks hts ht hA hP hK hD hG hS ls hl
  have hown : s.vm.findClass RX9 = some m.cls := hown
  have S0 : CallFix p m c cX9_openPages 3 s [.ref (q 31), .int p0, .int p1].toArray (fz_ws yX9_openPages cX9_openPages 3 (some .int)) RX9 := ⟨hx, hb, hml, hown, hts⟩
  have hl : lv_has ls 3 [(0, .ref (q 31)), (1, .int p0), (2, .int p1)] := hl
  refine lv_aload_n hx hb dX9_openPages_0 rfl (lv_at hl 0 rfl) ?_
  refine lv_iload_n hx hb dX9_openPages_1 rfl (lv_at hl 1 rfl) ?_
  refine fz_xVv (As := [.int p0]) (rest := []) S0 (c_reqNode l hl0 A D k q f pa v p0 g_v_1 g_f_4_0) (fz_cwV (C := RX9) 1 hts fm_100 fm_101 fm_102 fm_103 fm_6 rfl rfl ⟨by decide, by decide, by decide +kernel⟩ ⟨Nat.le_of_ble_eq_true rfl, Nat.le_of_ble_eq_true rfl⟩) (va_recv hK hP (ci := 13) (q0 := 31) rfl rfl) (fun _ h9 => h9) (fun a9 h9 => hA a9 (Nat.le_trans hS.1 h9)) hG hS hP hK hD rfl hl.1 rfl (Nat.le_of_ble_eq_true rfl) dX9_openPages_2 ⟨Nat.le_of_ble_eq_true rfl, Nat.le_of_ble_eq_true rfl⟩ ht hlocks (fun E hE => by obtain ⟨rfl, h9⟩ := hE; exact (Or.inl ⟨rfl, (fq_28 p0 h9)⟩)) ⟨Nat.le_of_ble_eq_true rfl, Nat.le_of_ble_eq_true rfl⟩ (fun u_1 H locs hw hz1 hk1 hP hS => ?_)
  have hP : va_P D vwCl (fz_WC k q f pa v) H := hP
  have hq_1 : p0 = 0 := hw
  obtain rfl : p0 = 0 := (fq_27 p0 hq_1)
  refine lv_iload_n hx hb dX9_openPages_5 rfl (lv_at hl 2 rfl) ?_
  refine fz_xSv (As := [.int p1]) (rest := []) S0 (c_reqDay l hl0 A D k q f pa v p1) (fz_cwS 1 hts fm_135 fm_136 fm_137 fm_6 rfl rfl ⟨by decide, by decide, by decide +kernel⟩ ⟨Nat.le_of_ble_eq_true rfl, Nat.le_of_ble_eq_true rfl⟩) (fun _ h9 => h9) (fun a9 h9 => hA a9 (Nat.le_trans hS.1 h9)) hG hS hP hK hD rfl hl.1 rfl (Nat.le_of_ble_eq_true rfl) dX9_openPages_6 ⟨Nat.le_of_ble_eq_true rfl, Nat.le_of_ble_eq_true rfl⟩ ht hlocks (fun E hE => by obtain ⟨rfl, h9⟩ := hE; exact (Or.inr ⟨rfl, (fq_58 p1 h9)⟩)) ⟨Nat.le_of_ble_eq_true rfl, Nat.le_of_ble_eq_true rfl⟩ (fun u_2 H locs hw hz1 hk1 hP hS => ?_)
  have hP : va_P D vwCl (fz_WC k q f pa v) H := hP
  have hq_2 : (0 ≤ p1 ∧ p1 ≤ 9999) := hw
  refine lv_aload_n hx hb dX9_openPages_9 rfl (lv_at hl 0 rfl) ?_
  refine va_get (D := D) (ci := 13) (v := .ref (q 0)) (C := RX9) (T := TX9) (N := 8) hx hb hts (fun w9 h9 => fz_m (fin_X9 w9 h9)) hown hK hP 31 rfl rfl 0 (by decide) (hts _ (fz_m fm_9)) (fun _ h9 => h9) rfl dX9_openPages_10 ?_
  refine va_get (D := D) (ci := 11) (v := .ref (q 10)) (C := RX7) (T := TX7) (N := 6) hx hb hts (fun w9 h9 => fz_m (fin_X7 w9 h9)) hown hK hP 0 rfl rfl 1 (by decide) (hts _ (fz_m fm_128)) (fun _ h9 => h9) rfl dX9_openPages_13 ?_
  refine lv_aload_n hx hb dX9_openPages_16 rfl (lv_at hl 0 rfl) ?_
  refine va_get (D := D) (ci := 13) (v := .ref (q 0)) (C := RX9) (T := TX9) (N := 8) hx hb hts (fun w9 h9 => fz_m (fin_X9 w9 h9)) hown hK hP 31 rfl rfl 0 (by decide) (hts _ (fz_m fm_9)) (fun _ h9 => h9) rfl dX9_openPages_17 ?_
  refine va_get (D := D) (ci := 11) (v := .ref (q 1)) (C := RX7) (T := TX7) (N := 6) hx hb hts (fun w9 h9 => fz_m (fin_X7 w9 h9)) hown hK hP 0 rfl rfl 0 (by decide) (hts _ (fz_m fm_10)) (fun _ h9 => h9) rfl dX9_openPages_20 ?_
  refine lv_iload_n hx hb dX9_openPages_23 rfl (lv_at hl 1 rfl) ?_
  refine lv_iload_n hx hb dX9_openPages_24 rfl (lv_at hl 2 rfl) ?_
  refine fz_cVi (As := [.ref (q 1), .int 0, .int p1]) (rest := []) S0 (c_openSet l A D k q f pa v p1 g_f_7_0) (fz_cwV (C := RX6) 3 hts fm_95 fm_138 fm_97 fm_98 fm_54 rfl rfl ⟨by decide, by decide, by decide +kernel⟩ ⟨Nat.le_of_ble_eq_true rfl, Nat.le_of_ble_eq_true rfl⟩) (va_recv hK hP (ci := 10) (q0 := 10) rfl rfl) (fun _ h9 => h9) (fun a9 h9 => hA a9 (Nat.le_trans hS.1 h9)) hG hS hP hK hD rfl hl.1 rfl (Nat.le_of_ble_eq_true rfl) dX9_openPages_25 ⟨Nat.le_of_ble_eq_true rfl, Nat.le_of_ble_eq_true rfl⟩ (fun r_3 u_3 H locs hw hz1 hk1 hP hS => ?_)
  have hP : va_P D vwCl (fz_WC k q f pa v) H := hP
  obtain rfl : r_3 = 0 := hw
  have hP : va_P D vwCl [] H := fz_nil
  exact vx_ret (fz_iret hx hb hr rfl hlocks hS dX9_openPages_28 () ⟨rfl, (fq_59 p1 hq_2)⟩ hP (Nat.le_of_ble_eq_true rfl) (Nat.le_of_ble_eq_true rfl))

set_option maxHeartbeats 4000000 in
set_option maxRecDepth 100000 in
theorem c_firstDay (l : Launch) (hl0 : l.stackTraces = false) (A : Nat → Prop) (D : va_G) (k : Nat → ClassId) (q : Nat → Nat) (f : Nat → Nat → Int32) (pa : Nat → Option Nat) (v : Nat → Int32) (p0 : Int32) (g_v_7 : v 7 = 0)  :
    vx_Met l yX9_firstDay (fz_ws yX9_firstDay cX9_firstDay 3 (some .int)) { frames := 24, cells := 1, slots := 6, locals := 320 } (va_Pc [.ref (q 31), .int p0] (fz_PC A D (fz_tys k) (fz_WC k q f pa v))) (fz_QI D A (fun (_ : Unit) => ([] : va_W)) (fun (r : Int32) (_ : Unit) => False)) (fz_XC (fun E => (E = "java/lang/IndexOutOfBoundsException" ∧ True)) A) 1 6 A := by
  refine fz_ofX (by decide +kernel) (Nat.le_of_ble_eq_true rfl) ?_
  intro p e s m below meth c hx hb hr hml hown hlocks hts ht hA hP hK hD hG hS ls hl
  have hown : s.vm.findClass RX9 = some m.cls := hown
  have S0 : CallFix p m c cX9_firstDay 3 s [.ref (q 31), .int p0].toArray (fz_ws yX9_firstDay cX9_firstDay 3 (some .int)) RX9 := ⟨hx, hb, hml, hown, hts⟩
  have hl : lv_has ls 3 [(0, .ref (q 31)), (1, .int p0)] := hl
  refine lv_aload_n hx hb dX9_firstDay_0 rfl (lv_at hl 0 rfl) ?_
  refine lv_iload_n hx hb dX9_firstDay_1 rfl (lv_at hl 1 rfl) ?_
  refine fz_xVv (As := [.int p0]) (rest := []) S0 (c_reqCopy l hl0 A D k q f pa v p0 g_v_7) (fz_cwV (C := RX9) 1 hts fm_139 fm_140 fm_141 fm_142 fm_6 rfl rfl ⟨by decide, by decide, by decide +kernel⟩ ⟨Nat.le_of_ble_eq_true rfl, Nat.le_of_ble_eq_true rfl⟩) (va_recv hK hP (ci := 13) (q0 := 31) rfl rfl) (fun _ h9 => h9) (fun a9 h9 => hA a9 (Nat.le_trans hS.1 h9)) hG hS hP hK hD rfl hl.1 rfl (Nat.le_of_ble_eq_true rfl) dX9_firstDay_2 ⟨Nat.le_of_ble_eq_true rfl, Nat.le_of_ble_eq_true rfl⟩ ht hlocks (fun E hE => by obtain ⟨rfl, h9⟩ := hE; exact ⟨rfl, trivial⟩) ⟨Nat.le_of_ble_eq_true rfl, Nat.le_of_ble_eq_true rfl⟩ (fun u_1 H locs hw hz1 hk1 hP hS => ?_)
  have hP : va_P D vwCl (fz_WC k q f pa v) H := hP
  exact (show False from hw).elim

set_option maxHeartbeats 4000000 in
set_option maxRecDepth 100000 in
theorem c_put (l : Launch) (hl0 : l.stackTraces = false) (A : Nat → Prop) (D : va_G) (k : Nat → ClassId) (q : Nat → Nat) (f : Nat → Nat → Int32) (pa : Nat → Option Nat) (v : Nat → Int32) (p0 p1 : Int32) (g_v_1 : v 1 = 1) (g_f_4_0 : f 4 0 = 0) (g_v_3 : v 3 = 0)  :
    vx_Met l yX9_put (fz_ws yX9_put cX9_put 6 (some .int)) { frames := 24, cells := 2, slots := 12, locals := 320 } (va_Pc [.ref (q 31), .int p0, .int p1] (fz_PC A D (fz_tys k) (fz_WC k q f pa v))) (fz_QI D A (fun (_ : Unit) => ([] : va_W)) (fun (r : Int32) (_ : Unit) => False)) (fz_XC (fun E => (E = "java/lang/IndexOutOfBoundsException" ∧ True)) A) 2 12 A := by
  refine fz_ofX (by decide +kernel) (Nat.le_of_ble_eq_true rfl) ?_
  intro p e s m below meth c hx hb hr hml hown hlocks hts ht hA hP hK hD hG hS ls hl
  have hown : s.vm.findClass RX9 = some m.cls := hown
  have S0 : CallFix p m c cX9_put 6 s [.ref (q 31), .int p0, .int p1].toArray (fz_ws yX9_put cX9_put 6 (some .int)) RX9 := ⟨hx, hb, hml, hown, hts⟩
  have hl : lv_has ls 6 [(0, .ref (q 31)), (1, .int p0), (2, .int p1)] := hl
  refine lv_aload_n hx hb dX9_put_0 rfl (lv_at hl 0 rfl) ?_
  refine lv_iload_n hx hb dX9_put_1 rfl (lv_at hl 1 rfl) ?_
  refine fz_xVv (As := [.int p0]) (rest := []) S0 (c_reqNode l hl0 A D k q f pa v p0 g_v_1 g_f_4_0) (fz_cwV (C := RX9) 1 hts fm_100 fm_101 fm_102 fm_103 fm_6 rfl rfl ⟨by decide, by decide, by decide +kernel⟩ ⟨Nat.le_of_ble_eq_true rfl, Nat.le_of_ble_eq_true rfl⟩) (va_recv hK hP (ci := 13) (q0 := 31) rfl rfl) (fun _ h9 => h9) (fun a9 h9 => hA a9 (Nat.le_trans hS.1 h9)) hG hS hP hK hD rfl hl.1 rfl (Nat.le_of_ble_eq_true rfl) dX9_put_2 ⟨Nat.le_of_ble_eq_true rfl, Nat.le_of_ble_eq_true rfl⟩ ht hlocks (fun E hE => by obtain ⟨rfl, h9⟩ := hE; exact ⟨rfl, trivial⟩) ⟨Nat.le_of_ble_eq_true rfl, Nat.le_of_ble_eq_true rfl⟩ (fun u_1 H locs hw hz1 hk1 hP hS => ?_)
  have hP : va_P D vwCl (fz_WC k q f pa v) H := hP
  have hq_1 : p0 = 0 := hw
  obtain rfl : p0 = 0 := (fq_27 p0 hq_1)
  refine lv_aload_n hx hb dX9_put_5 rfl (lv_at hl 0 rfl) ?_
  refine lv_iload_n hx hb dX9_put_6 rfl (lv_at hl 2 rfl) ?_
  refine fz_xVv (As := [.int p1]) (rest := []) S0 (c_reqCont l hl0 A D k q f pa v p1 g_v_3) (fz_cwV (C := RX9) 1 hts fm_143 fm_144 fm_145 fm_146 fm_6 rfl rfl ⟨by decide, by decide, by decide +kernel⟩ ⟨Nat.le_of_ble_eq_true rfl, Nat.le_of_ble_eq_true rfl⟩) (va_recv hK hP (ci := 13) (q0 := 31) rfl rfl) (fun _ h9 => h9) (fun a9 h9 => hA a9 (Nat.le_trans hS.1 h9)) hG hS hP hK hD rfl hl.1 rfl (Nat.le_of_ble_eq_true rfl) dX9_put_7 ⟨Nat.le_of_ble_eq_true rfl, Nat.le_of_ble_eq_true rfl⟩ ht hlocks (fun E hE => by obtain ⟨rfl, h9⟩ := hE; exact ⟨rfl, trivial⟩) ⟨Nat.le_of_ble_eq_true rfl, Nat.le_of_ble_eq_true rfl⟩ (fun u_2 H locs hw hz1 hk1 hP hS => ?_)
  have hP : va_P D vwCl (fz_WC k q f pa v) H := hP
  exact (show False from hw).elim

set_option maxHeartbeats 4000000 in
set_option maxRecDepth 100000 in
theorem c_takeOut (l : Launch) (hl0 : l.stackTraces = false) (A : Nat → Prop) (D : va_G) (k : Nat → ClassId) (q : Nat → Nat) (f : Nat → Nat → Int32) (pa : Nat → Option Nat) (v : Nat → Int32) (p0 : Int32) (g_v_1 : v 1 = 1) (g_f_4_0 : f 4 0 = 0) (g_f_18_0 : f 18 0 = (-1))  :
    vx_Met l yX9_takeOut (fz_ws yX9_takeOut cX9_takeOut 3 (some .int)) { frames := 24, cells := 2, slots := 12, locals := 320 } (va_Pc [.ref (q 31), .int p0] (fz_PC A D (fz_tys k) (fz_WC k q f pa v))) (fz_QI D A (fun (_ : Unit) => ([] : va_W)) (fun (r : Int32) (_ : Unit) => False)) (fz_XC (fun E => (E = "java/lang/IndexOutOfBoundsException" ∧ ¬ (p0 = 0)) ∨ (E = "java/lang/IllegalStateException" ∧ p0 = 0)) A) 2 12 A := by
  refine fz_ofX (by decide +kernel) (Nat.le_of_ble_eq_true rfl) ?_
  intro p e s m below meth c hx hb hr hml hown hlocks hts ht hA hP hK hD hG hS ls hl
  have hown : s.vm.findClass RX9 = some m.cls := hown
  have S0 : CallFix p m c cX9_takeOut 3 s [.ref (q 31), .int p0].toArray (fz_ws yX9_takeOut cX9_takeOut 3 (some .int)) RX9 := ⟨hx, hb, hml, hown, hts⟩
  have hl : lv_has ls 3 [(0, .ref (q 31)), (1, .int p0)] := hl
  refine lv_aload_n hx hb dX9_takeOut_0 rfl (lv_at hl 0 rfl) ?_
  refine lv_iload_n hx hb dX9_takeOut_1 rfl (lv_at hl 1 rfl) ?_
  refine fz_xVv (As := [.int p0]) (rest := []) S0 (c_reqNode l hl0 A D k q f pa v p0 g_v_1 g_f_4_0) (fz_cwV (C := RX9) 1 hts fm_100 fm_101 fm_102 fm_103 fm_6 rfl rfl ⟨by decide, by decide, by decide +kernel⟩ ⟨Nat.le_of_ble_eq_true rfl, Nat.le_of_ble_eq_true rfl⟩) (va_recv hK hP (ci := 13) (q0 := 31) rfl rfl) (fun _ h9 => h9) (fun a9 h9 => hA a9 (Nat.le_trans hS.1 h9)) hG hS hP hK hD rfl hl.1 rfl (Nat.le_of_ble_eq_true rfl) dX9_takeOut_2 ⟨Nat.le_of_ble_eq_true rfl, Nat.le_of_ble_eq_true rfl⟩ ht hlocks (fun E hE => by obtain ⟨rfl, h9⟩ := hE; exact (Or.inl ⟨rfl, (fq_28 p0 h9)⟩)) ⟨Nat.le_of_ble_eq_true rfl, Nat.le_of_ble_eq_true rfl⟩ (fun u_1 H locs hw hz1 hk1 hP hS => ?_)
  have hP : va_P D vwCl (fz_WC k q f pa v) H := hP
  have hq_1 : p0 = 0 := hw
  obtain rfl : p0 = 0 := (fq_27 p0 hq_1)
  refine lv_aload_n hx hb dX9_takeOut_5 rfl (lv_at hl 0 rfl) ?_
  refine va_get (D := D) (ci := 13) (v := .ref (q 0)) (C := RX9) (T := TX9) (N := 8) hx hb hts (fun w9 h9 => fz_m (fin_X9 w9 h9)) hown hK hP 31 rfl rfl 0 (by decide) (hts _ (fz_m fm_9)) (fun _ h9 => h9) rfl dX9_takeOut_6 ?_
  refine va_get (D := D) (ci := 11) (v := .ref (q 14)) (C := RX7) (T := TX7) (N := 6) hx hb hts (fun w9 h9 => fz_m (fin_X7 w9 h9)) hown hK hP 0 rfl rfl 2 (by decide) (hts _ (fz_m fm_21)) (fun _ h9 => h9) rfl dX9_takeOut_9 ?_
  refine va_get (D := D) (ci := 4) (v := .ref (q 18)) (C := RX0) (T := TX0) (N := 9) hx hb hts (fun w9 h9 => fz_m (fin_X0 w9 h9)) hown hK hP 14 rfl rfl 6 (by decide) (hts _ (fz_m fm_121)) (fun _ h9 => h9) rfl dX9_takeOut_12 ?_
  refine lv_iload_n hx hb dX9_takeOut_15 rfl (lv_at hl 1 rfl) ?_
  refine va_iald hx hb hK hP 18 0 rfl rfl (fz_vin (by decide)) dX9_takeOut_16 ?_
  refine fz_I (y := (-1)) g_f_18_0 ?_
  refine lv_istore_n (lv' := [(2, .int (-1)), (0, .ref (q 31)), (1, .int 0)]) hx hb dX9_takeOut_17 rfl hl (by decide) rfl (fun ls hl => ?_)
  refine lv_iload_n hx hb dX9_takeOut_18 rfl (lv_at hl 0 rfl) ?_
  refine lv_iconst (v := (-1)) hx hb dX9_takeOut_19 (by decide) ?_
  refine lv_icmp_ne (tgt := 33) hx hb dX9_takeOut_20 (by decide) (fun c_2 => absurd (by decide) c_2) (fun c_2 => ?_)
  exact fz_throw (cls := "java/lang/IllegalStateException") (text := "the node is in no container") (names := fz_EN) (ik := 79) (is := 254) (ic := 83) hx hb hl0 hown hts hG (fz_fit_83) ⟨fm_147, fm_148⟩ (by decide) fz_at_83 fz_ok_83 hS (hl.1.trans hml.symm) dX9_takeOut_23 dX9_takeOut_26 dX9_takeOut_27 dX9_takeOut_29 dX9_takeOut_32 ht hlocks ⟨Nat.le_of_ble_eq_true rfl, Nat.le_of_ble_eq_true rfl, Nat.le_of_ble_eq_true rfl, Nat.le_of_ble_eq_true rfl⟩ (Or.inr ⟨rfl, (fq_3 )⟩) ⟨Nat.le_of_ble_eq_true rfl, Nat.le_of_ble_eq_true rfl⟩

set_option maxHeartbeats 4000000 in
set_option maxRecDepth 100000 in
theorem c_split (l : Launch) (hl0 : l.stackTraces = false) (A : Nat → Prop) (D : va_G) (k : Nat → ClassId) (q : Nat → Nat) (f : Nat → Nat → Int32) (pa : Nat → Option Nat) (v : Nat → Int32) (p0 p1 p2 : Int32) (g_v_3 : v 3 = 0)  :
    vx_Met l yX9_split (fz_ws yX9_split cX9_split 8 (some .int)) { frames := 24, cells := 1, slots := 6, locals := 320 } (va_Pc [.ref (q 31), .int p0, .int p1, .int p2] (fz_PC A D (fz_tys k) (fz_WC k q f pa v))) (fz_QI D A (fun (_ : Unit) => ([] : va_W)) (fun (r : Int32) (_ : Unit) => False)) (fz_XC (fun E => (E = "java/lang/IndexOutOfBoundsException" ∧ True)) A) 1 6 A := by
  refine fz_ofX (by decide +kernel) (Nat.le_of_ble_eq_true rfl) ?_
  intro p e s m below meth c hx hb hr hml hown hlocks hts ht hA hP hK hD hG hS ls hl
  have hown : s.vm.findClass RX9 = some m.cls := hown
  have S0 : CallFix p m c cX9_split 8 s [.ref (q 31), .int p0, .int p1, .int p2].toArray (fz_ws yX9_split cX9_split 8 (some .int)) RX9 := ⟨hx, hb, hml, hown, hts⟩
  have hl : lv_has ls 8 [(0, .ref (q 31)), (1, .int p0), (2, .int p1), (3, .int p2)] := hl
  refine lv_aload_n hx hb dX9_split_0 rfl (lv_at hl 0 rfl) ?_
  refine lv_iload_n hx hb dX9_split_1 rfl (lv_at hl 1 rfl) ?_
  refine fz_xVv (As := [.int p0]) (rest := []) S0 (c_reqCont l hl0 A D k q f pa v p0 g_v_3) (fz_cwV (C := RX9) 1 hts fm_143 fm_144 fm_145 fm_146 fm_6 rfl rfl ⟨by decide, by decide, by decide +kernel⟩ ⟨Nat.le_of_ble_eq_true rfl, Nat.le_of_ble_eq_true rfl⟩) (va_recv hK hP (ci := 13) (q0 := 31) rfl rfl) (fun _ h9 => h9) (fun a9 h9 => hA a9 (Nat.le_trans hS.1 h9)) hG hS hP hK hD rfl hl.1 rfl (Nat.le_of_ble_eq_true rfl) dX9_split_2 ⟨Nat.le_of_ble_eq_true rfl, Nat.le_of_ble_eq_true rfl⟩ ht hlocks (fun E hE => by obtain ⟨rfl, h9⟩ := hE; exact ⟨rfl, trivial⟩) ⟨Nat.le_of_ble_eq_true rfl, Nat.le_of_ble_eq_true rfl⟩ (fun u_1 H locs hw hz1 hk1 hP hS => ?_)
  have hP : va_P D vwCl (fz_WC k q f pa v) H := hP
  exact (show False from hw).elim

set_option maxHeartbeats 4000000 in
set_option maxRecDepth 100000 in
theorem c_merge (l : Launch) (hl0 : l.stackTraces = false) (A : Nat → Prop) (D : va_G) (k : Nat → ClassId) (q : Nat → Nat) (f : Nat → Nat → Int32) (pa : Nat → Option Nat) (v : Nat → Int32) (p0 p1 : Int32) (g_v_3 : v 3 = 0)  :
    vx_Met l yX9_merge (fz_ws yX9_merge cX9_merge 6 (some .int)) { frames := 24, cells := 1, slots := 6, locals := 320 } (va_Pc [.ref (q 31), .int p0, .int p1] (fz_PC A D (fz_tys k) (fz_WC k q f pa v))) (fz_QI D A (fun (_ : Unit) => ([] : va_W)) (fun (r : Int32) (_ : Unit) => False)) (fz_XC (fun E => (E = "java/lang/IndexOutOfBoundsException" ∧ True)) A) 1 6 A := by
  refine fz_ofX (by decide +kernel) (Nat.le_of_ble_eq_true rfl) ?_
  intro p e s m below meth c hx hb hr hml hown hlocks hts ht hA hP hK hD hG hS ls hl
  have hown : s.vm.findClass RX9 = some m.cls := hown
  have S0 : CallFix p m c cX9_merge 6 s [.ref (q 31), .int p0, .int p1].toArray (fz_ws yX9_merge cX9_merge 6 (some .int)) RX9 := ⟨hx, hb, hml, hown, hts⟩
  have hl : lv_has ls 6 [(0, .ref (q 31)), (1, .int p0), (2, .int p1)] := hl
  refine lv_aload_n hx hb dX9_merge_0 rfl (lv_at hl 0 rfl) ?_
  refine lv_iload_n hx hb dX9_merge_1 rfl (lv_at hl 1 rfl) ?_
  refine fz_xVv (As := [.int p0]) (rest := []) S0 (c_reqCont l hl0 A D k q f pa v p0 g_v_3) (fz_cwV (C := RX9) 1 hts fm_143 fm_144 fm_145 fm_146 fm_6 rfl rfl ⟨by decide, by decide, by decide +kernel⟩ ⟨Nat.le_of_ble_eq_true rfl, Nat.le_of_ble_eq_true rfl⟩) (va_recv hK hP (ci := 13) (q0 := 31) rfl rfl) (fun _ h9 => h9) (fun a9 h9 => hA a9 (Nat.le_trans hS.1 h9)) hG hS hP hK hD rfl hl.1 rfl (Nat.le_of_ble_eq_true rfl) dX9_merge_2 ⟨Nat.le_of_ble_eq_true rfl, Nat.le_of_ble_eq_true rfl⟩ ht hlocks (fun E hE => by obtain ⟨rfl, h9⟩ := hE; exact ⟨rfl, trivial⟩) ⟨Nat.le_of_ble_eq_true rfl, Nat.le_of_ble_eq_true rfl⟩ (fun u_1 H locs hw hz1 hk1 hP hS => ?_)
  have hP : va_P D vwCl (fz_WC k q f pa v) H := hP
  exact (show False from hw).elim

set_option maxHeartbeats 4000000 in
set_option maxRecDepth 100000 in
theorem c_container (l : Launch) (hl0 : l.stackTraces = false) (A : Nat → Prop) (D : va_G) (k : Nat → ClassId) (q : Nat → Nat) (f : Nat → Nat → Int32) (pa : Nat → Option Nat) (v : Nat → Int32) (p0 p1 : Int32) (g_v_3 : v 3 = 0)  :
    vx_Met l yX9_container (fz_ws yX9_container cX9_container 3 (some .int)) { frames := 24, cells := 1, slots := 6, locals := 320 } (va_Pc [.ref (q 31), .int p0, .int p1] (fz_PC A D (fz_tys k) (fz_WC k q f pa v))) (fz_QI D A (fun (_ : Unit) => ([] : va_W)) (fun (r : Int32) (_ : Unit) => False)) (fz_XC (fun E => (E = "java/lang/IndexOutOfBoundsException" ∧ True)) A) 1 6 A := by
  refine fz_ofX (by decide +kernel) (Nat.le_of_ble_eq_true rfl) ?_
  intro p e s m below meth c hx hb hr hml hown hlocks hts ht hA hP hK hD hG hS ls hl
  have hown : s.vm.findClass RX9 = some m.cls := hown
  have S0 : CallFix p m c cX9_container 3 s [.ref (q 31), .int p0, .int p1].toArray (fz_ws yX9_container cX9_container 3 (some .int)) RX9 := ⟨hx, hb, hml, hown, hts⟩
  have hl : lv_has ls 3 [(0, .ref (q 31)), (1, .int p0), (2, .int p1)] := hl
  refine lv_aload_n hx hb dX9_container_0 rfl (lv_at hl 0 rfl) ?_
  refine lv_iload_n hx hb dX9_container_1 rfl (lv_at hl 1 rfl) ?_
  refine fz_xVv (As := [.int p0]) (rest := []) S0 (c_reqCont l hl0 A D k q f pa v p0 g_v_3) (fz_cwV (C := RX9) 1 hts fm_143 fm_144 fm_145 fm_146 fm_6 rfl rfl ⟨by decide, by decide, by decide +kernel⟩ ⟨Nat.le_of_ble_eq_true rfl, Nat.le_of_ble_eq_true rfl⟩) (va_recv hK hP (ci := 13) (q0 := 31) rfl rfl) (fun _ h9 => h9) (fun a9 h9 => hA a9 (Nat.le_trans hS.1 h9)) hG hS hP hK hD rfl hl.1 rfl (Nat.le_of_ble_eq_true rfl) dX9_container_2 ⟨Nat.le_of_ble_eq_true rfl, Nat.le_of_ble_eq_true rfl⟩ ht hlocks (fun E hE => by obtain ⟨rfl, h9⟩ := hE; exact ⟨rfl, trivial⟩) ⟨Nat.le_of_ble_eq_true rfl, Nat.le_of_ble_eq_true rfl⟩ (fun u_1 H locs hw hz1 hk1 hP hS => ?_)
  have hP : va_P D vwCl (fz_WC k q f pa v) H := hP
  exact (show False from hw).elim

set_option maxHeartbeats 4000000 in
set_option maxRecDepth 100000 in
theorem c_unitAt (l : Launch) (hl0 : l.stackTraces = false) (A : Nat → Prop) (D : va_G) (k : Nat → ClassId) (q : Nat → Nat) (f : Nat → Nat → Int32) (pa : Nat → Option Nat) (v : Nat → Int32) (p0 p1 : Int32) (g_v_3 : v 3 = 0)  :
    vx_Met l yX9_unitAt (fz_ws yX9_unitAt cX9_unitAt 4 (some .int)) { frames := 24, cells := 1, slots := 6, locals := 320 } (va_Pc [.ref (q 31), .int p0, .int p1] (fz_PC A D (fz_tys k) (fz_WC k q f pa v))) (fz_QI D A (fun (_ : Unit) => ([] : va_W)) (fun (r : Int32) (_ : Unit) => False)) (fz_XC (fun E => (E = "java/lang/IndexOutOfBoundsException" ∧ True)) A) 1 6 A := by
  refine fz_ofX (by decide +kernel) (Nat.le_of_ble_eq_true rfl) ?_
  intro p e s m below meth c hx hb hr hml hown hlocks hts ht hA hP hK hD hG hS ls hl
  have hown : s.vm.findClass RX9 = some m.cls := hown
  have S0 : CallFix p m c cX9_unitAt 4 s [.ref (q 31), .int p0, .int p1].toArray (fz_ws yX9_unitAt cX9_unitAt 4 (some .int)) RX9 := ⟨hx, hb, hml, hown, hts⟩
  have hl : lv_has ls 4 [(0, .ref (q 31)), (1, .int p0), (2, .int p1)] := hl
  refine lv_aload_n hx hb dX9_unitAt_0 rfl (lv_at hl 0 rfl) ?_
  refine lv_iload_n hx hb dX9_unitAt_1 rfl (lv_at hl 1 rfl) ?_
  refine fz_xVv (As := [.int p0]) (rest := []) S0 (c_reqCont l hl0 A D k q f pa v p0 g_v_3) (fz_cwV (C := RX9) 1 hts fm_143 fm_144 fm_145 fm_146 fm_6 rfl rfl ⟨by decide, by decide, by decide +kernel⟩ ⟨Nat.le_of_ble_eq_true rfl, Nat.le_of_ble_eq_true rfl⟩) (va_recv hK hP (ci := 13) (q0 := 31) rfl rfl) (fun _ h9 => h9) (fun a9 h9 => hA a9 (Nat.le_trans hS.1 h9)) hG hS hP hK hD rfl hl.1 rfl (Nat.le_of_ble_eq_true rfl) dX9_unitAt_2 ⟨Nat.le_of_ble_eq_true rfl, Nat.le_of_ble_eq_true rfl⟩ ht hlocks (fun E hE => by obtain ⟨rfl, h9⟩ := hE; exact ⟨rfl, trivial⟩) ⟨Nat.le_of_ble_eq_true rfl, Nat.le_of_ble_eq_true rfl⟩ (fun u_1 H locs hw hz1 hk1 hP hS => ?_)
  have hP : va_P D vwCl (fz_WC k q f pa v) H := hP
  exact (show False from hw).elim

set_option maxHeartbeats 4000000 in
set_option maxRecDepth 100000 in
theorem c_copy (l : Launch) (hl0 : l.stackTraces = false) (A : Nat → Prop) (D : va_G) (k : Nat → ClassId) (q : Nat → Nat) (f : Nat → Nat → Int32) (pa : Nat → Option Nat) (v : Nat → Int32) (p0 p1 : Int32) (g_v_1 : v 1 = 1) (g_f_4_0 : f 4 0 = 0) (g_f_7_0 : f 7 0 = 0)  :
    vx_Met l yX9_copy (fz_ws yX9_copy cX9_copy 4 (some .int)) { frames := 24, cells := 2, slots := 12, locals := 320 } (va_Pc [.ref (q 31), .int p0, .int p1] (fz_PC A D (fz_tys k) (fz_WC k q f pa v))) (fz_QI D A (fun (_ : Unit) => ([] : va_W)) (fun (r : Int32) (_ : Unit) => False)) (fz_XC (fun E => (E = "java/lang/IndexOutOfBoundsException" ∧ ¬ (p0 = 0)) ∨ (E = "java/lang/IllegalArgumentException" ∧ p0 = 0)) A) 2 12 A := by
  refine fz_ofX (by decide +kernel) (Nat.le_of_ble_eq_true rfl) ?_
  intro p e s m below meth c hx hb hr hml hown hlocks hts ht hA hP hK hD hG hS ls hl
  have hown : s.vm.findClass RX9 = some m.cls := hown
  have S0 : CallFix p m c cX9_copy 4 s [.ref (q 31), .int p0, .int p1].toArray (fz_ws yX9_copy cX9_copy 4 (some .int)) RX9 := ⟨hx, hb, hml, hown, hts⟩
  have hl : lv_has ls 4 [(0, .ref (q 31)), (1, .int p0), (2, .int p1)] := hl
  refine lv_aload_n hx hb dX9_copy_0 rfl (lv_at hl 0 rfl) ?_
  refine lv_iload_n hx hb dX9_copy_1 rfl (lv_at hl 1 rfl) ?_
  refine fz_xVv (As := [.int p0]) (rest := []) S0 (c_reqNode l hl0 A D k q f pa v p0 g_v_1 g_f_4_0) (fz_cwV (C := RX9) 1 hts fm_100 fm_101 fm_102 fm_103 fm_6 rfl rfl ⟨by decide, by decide, by decide +kernel⟩ ⟨Nat.le_of_ble_eq_true rfl, Nat.le_of_ble_eq_true rfl⟩) (va_recv hK hP (ci := 13) (q0 := 31) rfl rfl) (fun _ h9 => h9) (fun a9 h9 => hA a9 (Nat.le_trans hS.1 h9)) hG hS hP hK hD rfl hl.1 rfl (Nat.le_of_ble_eq_true rfl) dX9_copy_2 ⟨Nat.le_of_ble_eq_true rfl, Nat.le_of_ble_eq_true rfl⟩ ht hlocks (fun E hE => by obtain ⟨rfl, h9⟩ := hE; exact (Or.inl ⟨rfl, (fq_28 p0 h9)⟩)) ⟨Nat.le_of_ble_eq_true rfl, Nat.le_of_ble_eq_true rfl⟩ (fun u_1 H locs hw hz1 hk1 hP hS => ?_)
  have hP : va_P D vwCl (fz_WC k q f pa v) H := hP
  have hq_1 : p0 = 0 := hw
  obtain rfl : p0 = 0 := (fq_27 p0 hq_1)
  refine lv_aload_n hx hb dX9_copy_5 rfl (lv_at hl 0 rfl) ?_
  refine lv_iload_n hx hb dX9_copy_6 rfl (lv_at hl 1 rfl) ?_
  refine fz_xVv (As := [.int 0]) (rest := []) S0 (c_reqUnit l hl0 A D k q f pa v g_f_7_0) (fz_cwV (C := RX9) 1 hts fm_149 fm_150 fm_151 fm_152 fm_6 rfl rfl ⟨by decide, by decide, by decide +kernel⟩ ⟨Nat.le_of_ble_eq_true rfl, Nat.le_of_ble_eq_true rfl⟩) (va_recv hK hP (ci := 13) (q0 := 31) rfl rfl) (fun _ h9 => h9) (fun a9 h9 => hA a9 (Nat.le_trans hS.1 h9)) hG hS hP hK hD rfl hl.1 rfl (Nat.le_of_ble_eq_true rfl) dX9_copy_7 ⟨Nat.le_of_ble_eq_true rfl, Nat.le_of_ble_eq_true rfl⟩ ht hlocks (fun E hE => by obtain ⟨rfl, h9⟩ := hE; exact (Or.inr ⟨rfl, (fq_3 )⟩)) ⟨Nat.le_of_ble_eq_true rfl, Nat.le_of_ble_eq_true rfl⟩ (fun u_2 H locs hw hz1 hk1 hP hS => ?_)
  have hP : va_P D vwCl (fz_WC k q f pa v) H := hP
  exact (show False from hw).elim

set_option maxHeartbeats 4000000 in
set_option maxRecDepth 100000 in
theorem c_copyPart (l : Launch) (hl0 : l.stackTraces = false) (A : Nat → Prop) (D : va_G) (k : Nat → ClassId) (q : Nat → Nat) (f : Nat → Nat → Int32) (pa : Nat → Option Nat) (v : Nat → Int32) (p0 p1 : Int32) (g_v_7 : v 7 = 0)  :
    vx_Met l yX9_copyPart (fz_ws yX9_copyPart cX9_copyPart 4 (some .int)) { frames := 24, cells := 1, slots := 6, locals := 320 } (va_Pc [.ref (q 31), .int p0, .int p1] (fz_PC A D (fz_tys k) (fz_WC k q f pa v))) (fz_QI D A (fun (_ : Unit) => ([] : va_W)) (fun (r : Int32) (_ : Unit) => False)) (fz_XC (fun E => (E = "java/lang/IndexOutOfBoundsException" ∧ True)) A) 1 6 A := by
  refine fz_ofX (by decide +kernel) (Nat.le_of_ble_eq_true rfl) ?_
  intro p e s m below meth c hx hb hr hml hown hlocks hts ht hA hP hK hD hG hS ls hl
  have hown : s.vm.findClass RX9 = some m.cls := hown
  have S0 : CallFix p m c cX9_copyPart 4 s [.ref (q 31), .int p0, .int p1].toArray (fz_ws yX9_copyPart cX9_copyPart 4 (some .int)) RX9 := ⟨hx, hb, hml, hown, hts⟩
  have hl : lv_has ls 4 [(0, .ref (q 31)), (1, .int p0), (2, .int p1)] := hl
  refine lv_aload_n hx hb dX9_copyPart_0 rfl (lv_at hl 0 rfl) ?_
  refine lv_iload_n hx hb dX9_copyPart_1 rfl (lv_at hl 1 rfl) ?_
  refine fz_xVv (As := [.int p0]) (rest := []) S0 (c_reqCopy l hl0 A D k q f pa v p0 g_v_7) (fz_cwV (C := RX9) 1 hts fm_139 fm_140 fm_141 fm_142 fm_6 rfl rfl ⟨by decide, by decide, by decide +kernel⟩ ⟨Nat.le_of_ble_eq_true rfl, Nat.le_of_ble_eq_true rfl⟩) (va_recv hK hP (ci := 13) (q0 := 31) rfl rfl) (fun _ h9 => h9) (fun a9 h9 => hA a9 (Nat.le_trans hS.1 h9)) hG hS hP hK hD rfl hl.1 rfl (Nat.le_of_ble_eq_true rfl) dX9_copyPart_2 ⟨Nat.le_of_ble_eq_true rfl, Nat.le_of_ble_eq_true rfl⟩ ht hlocks (fun E hE => by obtain ⟨rfl, h9⟩ := hE; exact ⟨rfl, trivial⟩) ⟨Nat.le_of_ble_eq_true rfl, Nat.le_of_ble_eq_true rfl⟩ (fun u_1 H locs hw hz1 hk1 hP hS => ?_)
  have hP : va_P D vwCl (fz_WC k q f pa v) H := hP
  exact (show False from hw).elim

set_option maxHeartbeats 4000000 in
set_option maxRecDepth 100000 in
theorem c_request (l : Launch) (hl0 : l.stackTraces = false) (A : Nat → Prop) (D : va_G) (k : Nat → ClassId) (q : Nat → Nat) (f : Nat → Nat → Int32) (pa : Nat → Option Nat) (v : Nat → Int32) (p0 p1 p2 : Int32) (g_v_1 : v 1 = 1) (g_f_4_0 : f 4 0 = 0) (g_f_7_0 : f 7 0 = 0)  :
    vx_Met l yX9_request (fz_ws yX9_request cX9_request 6 (some .int)) { frames := 24, cells := 2, slots := 12, locals := 320 } (va_Pc [.ref (q 31), .int p0, .int p1, .int p2] (fz_PC A D (fz_tys k) (fz_WC k q f pa v))) (fz_QI D A (fun (_ : Unit) => ([] : va_W)) (fun (r : Int32) (_ : Unit) => False)) (fz_XC (fun E => (E = "java/lang/IndexOutOfBoundsException" ∧ (¬ ((0 ≤ p0 ∧ p0 ≤ 7)) ∨ ¬ (p1 = 0))) ∨ (E = "java/lang/IllegalArgumentException" ∧ ((0 ≤ p0 ∧ p0 ≤ 7) ∧ p1 = 0))) A) 2 12 A := by
  refine fz_ofX (by decide +kernel) (Nat.le_of_ble_eq_true rfl) ?_
  intro p e s m below meth c hx hb hr hml hown hlocks hts ht hA hP hK hD hG hS ls hl
  have hown : s.vm.findClass RX9 = some m.cls := hown
  have S0 : CallFix p m c cX9_request 6 s [.ref (q 31), .int p0, .int p1, .int p2].toArray (fz_ws yX9_request cX9_request 6 (some .int)) RX9 := ⟨hx, hb, hml, hown, hts⟩
  have hl : lv_has ls 6 [(0, .ref (q 31)), (1, .int p0), (2, .int p1), (3, .int p2)] := hl
  refine lv_iload_n hx hb dX9_request_0 rfl (lv_at hl 1 rfl) ?_
  refine lv_if_lt (tgt := 10) hx hb dX9_request_1 (by decide) (fun c_1 => ?_) (fun c_1 => ?_)
  · skip
    exact fz_throwW (cls := "java/lang/IndexOutOfBoundsException") (text := "no such reader") (names := fz_EN) (ik := 161) (is := 328) (ic := 165) hx hb hl0 hown hts hG (fz_fit_165) ⟨fm_16, fm_17⟩ (by decide) fz_at_165 fz_ok_165 hS (hl.1.trans hml.symm) dX9_request_10 dX9_request_13 dX9_request_14 dX9_request_17 dX9_request_20 ht hlocks ⟨Nat.le_of_ble_eq_true rfl, Nat.le_of_ble_eq_true rfl, Nat.le_of_ble_eq_true rfl, Nat.le_of_ble_eq_true rfl⟩ (Or.inl ⟨rfl, (fq_60 p0 p1 c_1)⟩) ⟨Nat.le_of_ble_eq_true rfl, Nat.le_of_ble_eq_true rfl⟩
  · skip
    refine lv_iload_n hx hb dX9_request_4 rfl (lv_at hl 1 rfl) ?_
    refine lv_bipush (v := 8) hx hb dX9_request_5 (by decide) ?_
    refine lv_icmp_lt (tgt := 21) hx hb dX9_request_7 (by decide) (fun c_2 => ?_) (fun c_2 => ?_)
    · skip
      refine lv_aload_n hx hb dX9_request_21 rfl (lv_at hl 0 rfl) ?_
      refine lv_iload_n hx hb dX9_request_22 rfl (lv_at hl 2 rfl) ?_
      refine fz_xVv (As := [.int p1]) (rest := []) S0 (c_reqNode l hl0 A D k q f pa v p1 g_v_1 g_f_4_0) (fz_cwV (C := RX9) 1 hts fm_100 fm_101 fm_102 fm_103 fm_6 rfl rfl ⟨by decide, by decide, by decide +kernel⟩ ⟨Nat.le_of_ble_eq_true rfl, Nat.le_of_ble_eq_true rfl⟩) (va_recv hK hP (ci := 13) (q0 := 31) rfl rfl) (fun _ h9 => h9) (fun a9 h9 => hA a9 (Nat.le_trans hS.1 h9)) hG hS hP hK hD rfl hl.1 rfl (Nat.le_of_ble_eq_true rfl) dX9_request_23 ⟨Nat.le_of_ble_eq_true rfl, Nat.le_of_ble_eq_true rfl⟩ ht hlocks (fun E hE => by obtain ⟨rfl, h9⟩ := hE; exact (Or.inl ⟨rfl, (fq_61 p0 p1 h9)⟩)) ⟨Nat.le_of_ble_eq_true rfl, Nat.le_of_ble_eq_true rfl⟩ (fun u_3 H locs hw hz1 hk1 hP hS => ?_)
      have hP : va_P D vwCl (fz_WC k q f pa v) H := hP
      have hq_3 : p1 = 0 := hw
      obtain rfl : p1 = 0 := (fq_27 p1 hq_3)
      refine lv_aload_n hx hb dX9_request_26 rfl (lv_at hl 0 rfl) ?_
      refine lv_iload_n hx hb dX9_request_27 rfl (lv_at hl 2 rfl) ?_
      refine fz_xVv (As := [.int 0]) (rest := []) S0 (c_reqUnit l hl0 A D k q f pa v g_f_7_0) (fz_cwV (C := RX9) 1 hts fm_149 fm_150 fm_151 fm_152 fm_6 rfl rfl ⟨by decide, by decide, by decide +kernel⟩ ⟨Nat.le_of_ble_eq_true rfl, Nat.le_of_ble_eq_true rfl⟩) (va_recv hK hP (ci := 13) (q0 := 31) rfl rfl) (fun _ h9 => h9) (fun a9 h9 => hA a9 (Nat.le_trans hS.1 h9)) hG hS hP hK hD rfl hl.1 rfl (Nat.le_of_ble_eq_true rfl) dX9_request_28 ⟨Nat.le_of_ble_eq_true rfl, Nat.le_of_ble_eq_true rfl⟩ ht hlocks (fun E hE => by obtain ⟨rfl, h9⟩ := hE; exact (Or.inr ⟨rfl, (fq_62 p0 c_1 c_2)⟩)) ⟨Nat.le_of_ble_eq_true rfl, Nat.le_of_ble_eq_true rfl⟩ (fun u_4 H locs hw hz1 hk1 hP hS => ?_)
      have hP : va_P D vwCl (fz_WC k q f pa v) H := hP
      exact (show False from hw).elim
    · skip
      exact fz_throwW (cls := "java/lang/IndexOutOfBoundsException") (text := "no such reader") (names := fz_EN) (ik := 161) (is := 328) (ic := 165) hx hb hl0 hown hts hG (fz_fit_165) ⟨fm_16, fm_17⟩ (by decide) fz_at_165 fz_ok_165 hS (hl.1.trans hml.symm) dX9_request_10 dX9_request_13 dX9_request_14 dX9_request_17 dX9_request_20 ht hlocks ⟨Nat.le_of_ble_eq_true rfl, Nat.le_of_ble_eq_true rfl, Nat.le_of_ble_eq_true rfl, Nat.le_of_ble_eq_true rfl⟩ (Or.inl ⟨rfl, (fq_63 p0 p1 c_2)⟩) ⟨Nat.le_of_ble_eq_true rfl, Nat.le_of_ble_eq_true rfl⟩

set_option maxHeartbeats 4000000 in
set_option maxRecDepth 100000 in
theorem c_requestPart (l : Launch) (hl0 : l.stackTraces = false) (A : Nat → Prop) (D : va_G) (k : Nat → ClassId) (q : Nat → Nat) (f : Nat → Nat → Int32) (pa : Nat → Option Nat) (v : Nat → Int32) (p0 p1 : Int32) (g_v_8 : v 8 = 0)  :
    vx_Met l yX9_requestPart (fz_ws yX9_requestPart cX9_requestPart 3 (some .int)) { frames := 24, cells := 1, slots := 6, locals := 320 } (va_Pc [.ref (q 31), .int p0, .int p1] (fz_PC A D (fz_tys k) (fz_WC k q f pa v))) (fz_QI D A (fun (_ : Unit) => ([] : va_W)) (fun (r : Int32) (_ : Unit) => False)) (fz_XC (fun E => (E = "java/lang/IndexOutOfBoundsException" ∧ True)) A) 1 6 A := by
  refine fz_ofX (by decide +kernel) (Nat.le_of_ble_eq_true rfl) ?_
  intro p e s m below meth c hx hb hr hml hown hlocks hts ht hA hP hK hD hG hS ls hl
  have hown : s.vm.findClass RX9 = some m.cls := hown
  have S0 : CallFix p m c cX9_requestPart 3 s [.ref (q 31), .int p0, .int p1].toArray (fz_ws yX9_requestPart cX9_requestPart 3 (some .int)) RX9 := ⟨hx, hb, hml, hown, hts⟩
  have hl : lv_has ls 3 [(0, .ref (q 31)), (1, .int p0), (2, .int p1)] := hl
  refine lv_aload_n hx hb dX9_requestPart_0 rfl (lv_at hl 0 rfl) ?_
  refine lv_iload_n hx hb dX9_requestPart_1 rfl (lv_at hl 1 rfl) ?_
  refine fz_xVv (As := [.int p0]) (rest := []) S0 (c_reqRequest l hl0 A D k q f pa v p0 g_v_8) (fz_cwV (C := RX9) 1 hts fm_153 fm_154 fm_155 fm_156 fm_6 rfl rfl ⟨by decide, by decide, by decide +kernel⟩ ⟨Nat.le_of_ble_eq_true rfl, Nat.le_of_ble_eq_true rfl⟩) (va_recv hK hP (ci := 13) (q0 := 31) rfl rfl) (fun _ h9 => h9) (fun a9 h9 => hA a9 (Nat.le_trans hS.1 h9)) hG hS hP hK hD rfl hl.1 rfl (Nat.le_of_ble_eq_true rfl) dX9_requestPart_2 ⟨Nat.le_of_ble_eq_true rfl, Nat.le_of_ble_eq_true rfl⟩ ht hlocks (fun E hE => by obtain ⟨rfl, h9⟩ := hE; exact ⟨rfl, trivial⟩) ⟨Nat.le_of_ble_eq_true rfl, Nat.le_of_ble_eq_true rfl⟩ (fun u_1 H locs hw hz1 hk1 hP hS => ?_)
  have hP : va_P D vwCl (fz_WC k q f pa v) H := hP
  exact (show False from hw).elim

set_option maxHeartbeats 4000000 in
set_option maxRecDepth 100000 in
theorem c_cancel (l : Launch) (hl0 : l.stackTraces = false) (A : Nat → Prop) (D : va_G) (k : Nat → ClassId) (q : Nat → Nat) (f : Nat → Nat → Int32) (pa : Nat → Option Nat) (v : Nat → Int32) (p0 : Int32) (g_v_8 : v 8 = 0)  :
    vx_Met l yX9_cancel (fz_ws yX9_cancel cX9_cancel 2 (some .int)) { frames := 24, cells := 1, slots := 6, locals := 320 } (va_Pc [.ref (q 31), .int p0] (fz_PC A D (fz_tys k) (fz_WC k q f pa v))) (fz_QI D A (fun (_ : Unit) => ([] : va_W)) (fun (r : Int32) (_ : Unit) => False)) (fz_XC (fun E => (E = "java/lang/IndexOutOfBoundsException" ∧ True)) A) 1 6 A := by
  refine fz_ofX (by decide +kernel) (Nat.le_of_ble_eq_true rfl) ?_
  intro p e s m below meth c hx hb hr hml hown hlocks hts ht hA hP hK hD hG hS ls hl
  have hown : s.vm.findClass RX9 = some m.cls := hown
  have S0 : CallFix p m c cX9_cancel 2 s [.ref (q 31), .int p0].toArray (fz_ws yX9_cancel cX9_cancel 2 (some .int)) RX9 := ⟨hx, hb, hml, hown, hts⟩
  have hl : lv_has ls 2 [(0, .ref (q 31)), (1, .int p0)] := hl
  refine lv_aload_n hx hb dX9_cancel_0 rfl (lv_at hl 0 rfl) ?_
  refine lv_iload_n hx hb dX9_cancel_1 rfl (lv_at hl 1 rfl) ?_
  refine fz_xVv (As := [.int p0]) (rest := []) S0 (c_reqRequest l hl0 A D k q f pa v p0 g_v_8) (fz_cwV (C := RX9) 1 hts fm_153 fm_154 fm_155 fm_156 fm_6 rfl rfl ⟨by decide, by decide, by decide +kernel⟩ ⟨Nat.le_of_ble_eq_true rfl, Nat.le_of_ble_eq_true rfl⟩) (va_recv hK hP (ci := 13) (q0 := 31) rfl rfl) (fun _ h9 => h9) (fun a9 h9 => hA a9 (Nat.le_trans hS.1 h9)) hG hS hP hK hD rfl hl.1 rfl (Nat.le_of_ble_eq_true rfl) dX9_cancel_2 ⟨Nat.le_of_ble_eq_true rfl, Nat.le_of_ble_eq_true rfl⟩ ht hlocks (fun E hE => by obtain ⟨rfl, h9⟩ := hE; exact ⟨rfl, trivial⟩) ⟨Nat.le_of_ble_eq_true rfl, Nat.le_of_ble_eq_true rfl⟩ (fun u_1 H locs hw hz1 hk1 hP hS => ?_)
  have hP : va_P D vwCl (fz_WC k q f pa v) H := hP
  exact (show False from hw).elim

set_option maxHeartbeats 4000000 in
set_option maxRecDepth 100000 in
theorem c_account (l : Launch) (hl0 : l.stackTraces = false) (A : Nat → Prop) (D : va_G) (k : Nat → ClassId) (q : Nat → Nat) (f : Nat → Nat → Int32) (pa : Nat → Option Nat) (v : Nat → Int32) (p0 : Int32) (g_v_2 : v 2 = 1) (g_f_2_0 : f 2 0 = 0) (g_f_7_0 : f 7 0 = 0) (g_f_6_0 : f 6 0 = 0) (g_v_4 : v 4 = 0) (g_v_5 : v 5 = 0) (g_v_7 : v 7 = 0) (g_v_8 : v 8 = 0) (g_v_6 : v 6 = 0)  :
    vx_Met l yX9_account (fz_ws yX9_account cX9_account 2 (some .int)) { frames := 24, cells := 1, slots := 6, locals := 320 } (va_Pc [.ref (q 31), .int p0] (fz_PC A D (fz_tys k) (fz_WC k q f pa v))) (fz_QI D A (fun (_ : Unit) => ([] : va_W)) (fun (r : Int32) (_ : Unit) => (r = 1 ∧ p0 = 0) ∨ (r = 0 ∧ (1 ≤ p0 ∧ p0 ≤ 9)))) (fz_XC (fun E => (E = "java/lang/IllegalArgumentException" ∧ ¬ ((0 ≤ p0 ∧ p0 ≤ 9)))) A) 1 6 A := by
  refine fz_ofX (by decide +kernel) (Nat.le_of_ble_eq_true rfl) ?_
  intro p e s m below meth c hx hb hr hml hown hlocks hts ht hA hP hK hD hG hS ls hl
  have hown : s.vm.findClass RX9 = some m.cls := hown
  have S0 : CallFix p m c cX9_account 2 s [.ref (q 31), .int p0].toArray (fz_ws yX9_account cX9_account 2 (some .int)) RX9 := ⟨hx, hb, hml, hown, hts⟩
  have hl : lv_has ls 2 [(0, .ref (q 31)), (1, .int p0)] := hl
  refine lv_iload_n hx hb dX9_account_0 rfl (lv_at hl 1 rfl) ?_
  refine lv_bipush (v := 9) hx hb dX9_account_1 (by decide) ?_
  refine fz_xSv (As := [.int p0, .int 9]) (rest := []) S0 (c_reqPart l hl0 A D k q f pa v p0 9) (fz_cwS 2 hts fm_105 fm_106 fm_107 fm_6 rfl rfl ⟨by decide, by decide, by decide +kernel⟩ ⟨Nat.le_of_ble_eq_true rfl, Nat.le_of_ble_eq_true rfl⟩) (fun _ h9 => h9) (fun a9 h9 => hA a9 (Nat.le_trans hS.1 h9)) hG hS hP hK hD rfl hl.1 rfl (Nat.le_of_ble_eq_true rfl) dX9_account_3 ⟨Nat.le_of_ble_eq_true rfl, Nat.le_of_ble_eq_true rfl⟩ ht hlocks (fun E hE => by obtain ⟨rfl, h9⟩ := hE; exact ⟨rfl, (fq_64 p0 h9)⟩) ⟨Nat.le_of_ble_eq_true rfl, Nat.le_of_ble_eq_true rfl⟩ (fun u_1 H locs hw hz1 hk1 hP hS => ?_)
  have hP : va_P D vwCl (fz_WC k q f pa v) H := hP
  have hq_1 : (0 ≤ p0 ∧ p0 ≤ 9) := hw
  refine lv_iload_n hx hb dX9_account_6 rfl (lv_at hl 1 rfl) ?_
  by_cases c_2_0 : p0 = 0
  · subst c_2_0
    refine lv_tableIn (off := 49) (tgt := 56) hx hb dX9_account_7 (by decide) (by decide) rfl (by decide) ?_
    refine lv_aload_n hx hb dX9_account_56 rfl (lv_at hl 0 rfl) ?_
    refine va_get (D := D) (ci := 13) (v := .ref (q 0)) (C := RX9) (T := TX9) (N := 8) hx hb hts (fun w9 h9 => fz_m (fin_X9 w9 h9)) hown hK hP 31 rfl rfl 0 (by decide) (hts _ (fz_m fm_9)) (fun _ h9 => h9) rfl dX9_account_57 ?_
    refine va_get (D := D) (ci := 11) (v := .ref (q 1)) (C := RX7) (T := TX7) (N := 6) hx hb hts (fun w9 h9 => fz_m (fin_X7 w9 h9)) hown hK hP 0 rfl rfl 0 (by decide) (hts _ (fz_m fm_10)) (fun _ h9 => h9) rfl dX9_account_60 ?_
    refine va_get (D := D) (ci := 12) (v := .int (v 2)) (C := RX8) (T := TX8) (N := 10) hx hb hts (fun w9 h9 => fz_m (fin_X8 w9 h9)) hown hK hP 1 rfl rfl 1 (by decide) (hts _ (fz_m fm_157)) (fun _ h9 => h9) rfl dX9_account_63 ?_
    refine fz_I (y := 1) g_v_2 ?_
    have hP : va_P D vwCl [] H := fz_nil
    exact vx_ret (fz_iret hx hb hr rfl hlocks hS dX9_account_66 () (Or.inl ⟨rfl, (fq_3 )⟩) hP (Nat.le_of_ble_eq_true rfl) (Nat.le_of_ble_eq_true rfl))
  by_cases c_2_1 : p0 = 1
  · subst c_2_1
    refine lv_tableIn (off := 60) (tgt := 67) hx hb dX9_account_7 (by decide) (by decide) rfl (by decide) ?_
    refine lv_aload_n hx hb dX9_account_67 rfl (lv_at hl 0 rfl) ?_
    refine va_get (D := D) (ci := 13) (v := .ref (q 0)) (C := RX9) (T := TX9) (N := 8) hx hb hts (fun w9 h9 => fz_m (fin_X9 w9 h9)) hown hK hP 31 rfl rfl 0 (by decide) (hts _ (fz_m fm_9)) (fun _ h9 => h9) rfl dX9_account_68 ?_
    refine va_get (D := D) (ci := 11) (v := .ref (q 1)) (C := RX7) (T := TX7) (N := 6) hx hb hts (fun w9 h9 => fz_m (fin_X7 w9 h9)) hown hK hP 0 rfl rfl 0 (by decide) (hts _ (fz_m fm_10)) (fun _ h9 => h9) rfl dX9_account_71 ?_
    refine fz_cVi (As := []) (rest := []) S0 (c_countUnits l A D k q f pa v g_v_2 g_f_2_0 g_f_7_0) (fz_cwV (C := RX8) 0 hts fm_158 fm_159 fm_160 fm_161 fm_15 rfl rfl ⟨by decide, by decide, by decide +kernel⟩ ⟨Nat.le_of_ble_eq_true rfl, Nat.le_of_ble_eq_true rfl⟩) (va_recv hK hP (ci := 12) (q0 := 1) rfl rfl) (fun _ h9 => h9) (fun a9 h9 => hA a9 (Nat.le_trans hS.1 h9)) hG hS hP hK hD rfl hl.1 rfl (Nat.le_of_ble_eq_true rfl) dX9_account_74 ⟨Nat.le_of_ble_eq_true rfl, Nat.le_of_ble_eq_true rfl⟩ (fun r_3 u_3 H locs hw hz1 hk1 hP hS => ?_)
    have hP : va_P D vwCl (fz_WC k q f pa v) H := hP
    obtain rfl : r_3 = 0 := hw
    have hP : va_P D vwCl [] H := fz_nil
    exact vx_ret (fz_iret hx hb hr rfl hlocks hS dX9_account_77 () (Or.inr ⟨rfl, (fq_65 )⟩) hP (Nat.le_of_ble_eq_true rfl) (Nat.le_of_ble_eq_true rfl))
  by_cases c_2_2 : p0 = 2
  · subst c_2_2
    refine lv_tableIn (off := 71) (tgt := 78) hx hb dX9_account_7 (by decide) (by decide) rfl (by decide) ?_
    refine lv_aload_n hx hb dX9_account_78 rfl (lv_at hl 0 rfl) ?_
    refine va_get (D := D) (ci := 13) (v := .ref (q 0)) (C := RX9) (T := TX9) (N := 8) hx hb hts (fun w9 h9 => fz_m (fin_X9 w9 h9)) hown hK hP 31 rfl rfl 0 (by decide) (hts _ (fz_m fm_9)) (fun _ h9 => h9) rfl dX9_account_79 ?_
    refine va_get (D := D) (ci := 11) (v := .ref (q 1)) (C := RX7) (T := TX7) (N := 6) hx hb hts (fun w9 h9 => fz_m (fin_X7 w9 h9)) hown hK hP 0 rfl rfl 0 (by decide) (hts _ (fz_m fm_10)) (fun _ h9 => h9) rfl dX9_account_82 ?_
    refine lv_iconst (v := 0) hx hb dX9_account_85 (by decide) ?_
    refine fz_cVi (As := [.int 0]) (rest := []) S0 (c_countPages l A D k q f pa v g_v_2 g_f_6_0 g_f_2_0 g_f_7_0) (fz_cwV (C := RX8) 1 hts fm_117 fm_118 fm_119 fm_120 fm_15 rfl rfl ⟨by decide, by decide, by decide +kernel⟩ ⟨Nat.le_of_ble_eq_true rfl, Nat.le_of_ble_eq_true rfl⟩) (va_recv hK hP (ci := 12) (q0 := 1) rfl rfl) (fun _ h9 => h9) (fun a9 h9 => hA a9 (Nat.le_trans hS.1 h9)) hG hS hP hK hD rfl hl.1 rfl (Nat.le_of_ble_eq_true rfl) dX9_account_86 ⟨Nat.le_of_ble_eq_true rfl, Nat.le_of_ble_eq_true rfl⟩ (fun r_4 u_4 H locs hw hz1 hk1 hP hS => ?_)
    have hP : va_P D vwCl (fz_WC k q f pa v) H := hP
    obtain rfl : r_4 = 0 := hw
    have hP : va_P D vwCl [] H := fz_nil
    exact vx_ret (fz_iret hx hb hr rfl hlocks hS dX9_account_89 () (Or.inr ⟨rfl, (fq_66 )⟩) hP (Nat.le_of_ble_eq_true rfl) (Nat.le_of_ble_eq_true rfl))
  by_cases c_2_3 : p0 = 3
  · subst c_2_3
    refine lv_tableIn (off := 83) (tgt := 90) hx hb dX9_account_7 (by decide) (by decide) rfl (by decide) ?_
    refine lv_aload_n hx hb dX9_account_90 rfl (lv_at hl 0 rfl) ?_
    refine va_get (D := D) (ci := 13) (v := .ref (q 0)) (C := RX9) (T := TX9) (N := 8) hx hb hts (fun w9 h9 => fz_m (fin_X9 w9 h9)) hown hK hP 31 rfl rfl 0 (by decide) (hts _ (fz_m fm_9)) (fun _ h9 => h9) rfl dX9_account_91 ?_
    refine va_get (D := D) (ci := 11) (v := .ref (q 14)) (C := RX7) (T := TX7) (N := 6) hx hb hts (fun w9 h9 => fz_m (fin_X7 w9 h9)) hown hK hP 0 rfl rfl 2 (by decide) (hts _ (fz_m fm_21)) (fun _ h9 => h9) rfl dX9_account_94 ?_
    refine va_get (D := D) (ci := 4) (v := .int (v 4)) (C := RX0) (T := TX0) (N := 9) hx hb hts (fun w9 h9 => fz_m (fin_X0 w9 h9)) hown hK hP 14 rfl rfl 1 (by decide) (hts _ (fz_m fm_162)) (fun _ h9 => h9) rfl dX9_account_97 ?_
    refine fz_I (y := 0) g_v_4 ?_
    have hP : va_P D vwCl [] H := fz_nil
    exact vx_ret (fz_iret hx hb hr rfl hlocks hS dX9_account_100 () (Or.inr ⟨rfl, (fq_67 )⟩) hP (Nat.le_of_ble_eq_true rfl) (Nat.le_of_ble_eq_true rfl))
  by_cases c_2_4 : p0 = 4
  · subst c_2_4
    refine lv_tableIn (off := 94) (tgt := 101) hx hb dX9_account_7 (by decide) (by decide) rfl (by decide) ?_
    refine lv_aload_n hx hb dX9_account_101 rfl (lv_at hl 0 rfl) ?_
    refine va_get (D := D) (ci := 13) (v := .ref (q 0)) (C := RX9) (T := TX9) (N := 8) hx hb hts (fun w9 h9 => fz_m (fin_X9 w9 h9)) hown hK hP 31 rfl rfl 0 (by decide) (hts _ (fz_m fm_9)) (fun _ h9 => h9) rfl dX9_account_102 ?_
    refine va_get (D := D) (ci := 11) (v := .ref (q 14)) (C := RX7) (T := TX7) (N := 6) hx hb hts (fun w9 h9 => fz_m (fin_X7 w9 h9)) hown hK hP 0 rfl rfl 2 (by decide) (hts _ (fz_m fm_21)) (fun _ h9 => h9) rfl dX9_account_105 ?_
    refine va_get (D := D) (ci := 4) (v := .int (v 5)) (C := RX0) (T := TX0) (N := 9) hx hb hts (fun w9 h9 => fz_m (fin_X0 w9 h9)) hown hK hP 14 rfl rfl 2 (by decide) (hts _ (fz_m fm_163)) (fun _ h9 => h9) rfl dX9_account_108 ?_
    refine fz_I (y := 0) g_v_5 ?_
    have hP : va_P D vwCl [] H := fz_nil
    exact vx_ret (fz_iret hx hb hr rfl hlocks hS dX9_account_111 () (Or.inr ⟨rfl, (fq_68 )⟩) hP (Nat.le_of_ble_eq_true rfl) (Nat.le_of_ble_eq_true rfl))
  by_cases c_2_5 : p0 = 5
  · subst c_2_5
    refine lv_tableIn (off := 105) (tgt := 112) hx hb dX9_account_7 (by decide) (by decide) rfl (by decide) ?_
    refine lv_aload_n hx hb dX9_account_112 rfl (lv_at hl 0 rfl) ?_
    refine va_get (D := D) (ci := 13) (v := .ref (q 0)) (C := RX9) (T := TX9) (N := 8) hx hb hts (fun w9 h9 => fz_m (fin_X9 w9 h9)) hown hK hP 31 rfl rfl 0 (by decide) (hts _ (fz_m fm_9)) (fun _ h9 => h9) rfl dX9_account_113 ?_
    refine va_get (D := D) (ci := 11) (v := .ref (q 23)) (C := RX7) (T := TX7) (N := 6) hx hb hts (fun w9 h9 => fz_m (fin_X7 w9 h9)) hown hK hP 0 rfl rfl 3 (by decide) (hts _ (fz_m fm_27)) (fun _ h9 => h9) rfl dX9_account_116 ?_
    refine fz_cVi (As := []) (rest := []) S0 (c_countPresent l A D k q f pa v g_v_7) (fz_cwV (C := RX1) 0 hts fm_164 fm_165 fm_166 fm_167 fm_32 rfl rfl ⟨by decide, by decide, by decide +kernel⟩ ⟨Nat.le_of_ble_eq_true rfl, Nat.le_of_ble_eq_true rfl⟩) (va_recv hK hP (ci := 5) (q0 := 23) rfl rfl) (fun _ h9 => h9) (fun a9 h9 => hA a9 (Nat.le_trans hS.1 h9)) hG hS hP hK hD rfl hl.1 rfl (Nat.le_of_ble_eq_true rfl) dX9_account_119 ⟨Nat.le_of_ble_eq_true rfl, Nat.le_of_ble_eq_true rfl⟩ (fun r_5 u_5 H locs hw hz1 hk1 hP hS => ?_)
    have hP : va_P D vwCl (fz_WC k q f pa v) H := hP
    obtain rfl : r_5 = 0 := hw
    have hP : va_P D vwCl [] H := fz_nil
    exact vx_ret (fz_iret hx hb hr rfl hlocks hS dX9_account_122 () (Or.inr ⟨rfl, (fq_69 )⟩) hP (Nat.le_of_ble_eq_true rfl) (Nat.le_of_ble_eq_true rfl))
  by_cases c_2_6 : p0 = 6
  · subst c_2_6
    refine lv_tableIn (off := 116) (tgt := 123) hx hb dX9_account_7 (by decide) (by decide) rfl (by decide) ?_
    refine lv_aload_n hx hb dX9_account_123 rfl (lv_at hl 0 rfl) ?_
    refine va_get (D := D) (ci := 13) (v := .ref (q 0)) (C := RX9) (T := TX9) (N := 8) hx hb hts (fun w9 h9 => fz_m (fin_X9 w9 h9)) hown hK hP 31 rfl rfl 0 (by decide) (hts _ (fz_m fm_9)) (fun _ h9 => h9) rfl dX9_account_124 ?_
    refine va_get (D := D) (ci := 11) (v := .ref (q 26)) (C := RX7) (T := TX7) (N := 6) hx hb hts (fun w9 h9 => fz_m (fin_X7 w9 h9)) hown hK hP 0 rfl rfl 4 (by decide) (hts _ (fz_m fm_33)) (fun _ h9 => h9) rfl dX9_account_127 ?_
    refine va_get (D := D) (ci := 9) (v := .int (v 8)) (C := RX5) (T := TX5) (N := 5) hx hb hts (fun w9 h9 => fz_m (fin_X5 w9 h9)) hown hK hP 26 rfl rfl 0 (by decide) (hts _ (fz_m fm_34)) (fun _ h9 => h9) rfl dX9_account_130 ?_
    refine fz_I (y := 0) g_v_8 ?_
    have hP : va_P D vwCl [] H := fz_nil
    exact vx_ret (fz_iret hx hb hr rfl hlocks hS dX9_account_133 () (Or.inr ⟨rfl, (fq_70 )⟩) hP (Nat.le_of_ble_eq_true rfl) (Nat.le_of_ble_eq_true rfl))
  by_cases c_2_7 : p0 = 7
  · subst c_2_7
    refine lv_tableIn (off := 127) (tgt := 134) hx hb dX9_account_7 (by decide) (by decide) rfl (by decide) ?_
    refine lv_aload_n hx hb dX9_account_134 rfl (lv_at hl 0 rfl) ?_
    refine va_get (D := D) (ci := 13) (v := .ref (q 0)) (C := RX9) (T := TX9) (N := 8) hx hb hts (fun w9 h9 => fz_m (fin_X9 w9 h9)) hown hK hP 31 rfl rfl 0 (by decide) (hts _ (fz_m fm_9)) (fun _ h9 => h9) rfl dX9_account_135 ?_
    refine fz_cVi (As := []) (rest := []) S0 (c_countAllShown l A D k q f pa v g_v_8) (fz_cwV (C := RX7) 0 hts fm_168 fm_169 fm_170 fm_171 fm_172 rfl rfl ⟨by decide, by decide, by decide +kernel⟩ ⟨Nat.le_of_ble_eq_true rfl, Nat.le_of_ble_eq_true rfl⟩) (va_recv hK hP (ci := 11) (q0 := 0) rfl rfl) (fun _ h9 => h9) (fun a9 h9 => hA a9 (Nat.le_trans hS.1 h9)) hG hS hP hK hD rfl hl.1 rfl (Nat.le_of_ble_eq_true rfl) dX9_account_138 ⟨Nat.le_of_ble_eq_true rfl, Nat.le_of_ble_eq_true rfl⟩ (fun r_6 u_6 H locs hw hz1 hk1 hP hS => ?_)
    have hP : va_P D vwCl (fz_WC k q f pa v) H := hP
    obtain rfl : r_6 = 0 := hw
    have hP : va_P D vwCl [] H := fz_nil
    exact vx_ret (fz_iret hx hb hr rfl hlocks hS dX9_account_141 () (Or.inr ⟨rfl, (fq_71 )⟩) hP (Nat.le_of_ble_eq_true rfl) (Nat.le_of_ble_eq_true rfl))
  by_cases c_2_8 : p0 = 8
  · subst c_2_8
    refine lv_tableIn (off := 135) (tgt := 142) hx hb dX9_account_7 (by decide) (by decide) rfl (by decide) ?_
    refine lv_aload_n hx hb dX9_account_142 rfl (lv_at hl 0 rfl) ?_
    refine va_get (D := D) (ci := 13) (v := .ref (q 0)) (C := RX9) (T := TX9) (N := 8) hx hb hts (fun w9 h9 => fz_m (fin_X9 w9 h9)) hown hK hP 31 rfl rfl 0 (by decide) (hts _ (fz_m fm_9)) (fun _ h9 => h9) rfl dX9_account_143 ?_
    refine va_get (D := D) (ci := 11) (v := .ref (q 26)) (C := RX7) (T := TX7) (N := 6) hx hb hts (fun w9 h9 => fz_m (fin_X7 w9 h9)) hown hK hP 0 rfl rfl 4 (by decide) (hts _ (fz_m fm_33)) (fun _ h9 => h9) rfl dX9_account_146 ?_
    refine lv_iconst (v := (-1)) hx hb dX9_account_149 (by decide) ?_
    refine fz_cVi (As := [.int (-1)]) (rest := []) S0 (c_countShowing l A D k q f pa v (-1) g_v_8) (fz_cwV (C := RX5) 1 hts fm_173 fm_174 fm_175 fm_176 fm_177 rfl rfl ⟨by decide, by decide, by decide +kernel⟩ ⟨Nat.le_of_ble_eq_true rfl, Nat.le_of_ble_eq_true rfl⟩) (va_recv hK hP (ci := 9) (q0 := 26) rfl rfl) (fun _ h9 => h9) (fun a9 h9 => hA a9 (Nat.le_trans hS.1 h9)) hG hS hP hK hD rfl hl.1 rfl (Nat.le_of_ble_eq_true rfl) dX9_account_150 ⟨Nat.le_of_ble_eq_true rfl, Nat.le_of_ble_eq_true rfl⟩ (fun r_7 u_7 H locs hw hz1 hk1 hP hS => ?_)
    have hP : va_P D vwCl (fz_WC k q f pa v) H := hP
    obtain rfl : r_7 = 0 := hw
    have hP : va_P D vwCl [] H := fz_nil
    exact vx_ret (fz_iret hx hb hr rfl hlocks hS dX9_account_153 () (Or.inr ⟨rfl, (fq_72 )⟩) hP (Nat.le_of_ble_eq_true rfl) (Nat.le_of_ble_eq_true rfl))
  obtain rfl : p0 = 9 := (fq_73 p0 hq_1 c_2_0 c_2_1 c_2_2 c_2_3 c_2_4 c_2_5 c_2_6 c_2_7 c_2_8)
  refine lv_tableOut (tgt := 154) hx hb dX9_account_7 (by decide) (by decide) ?_
  refine lv_aload_n hx hb dX9_account_154 rfl (lv_at hl 0 rfl) ?_
  refine va_get (D := D) (ci := 13) (v := .ref (q 0)) (C := RX9) (T := TX9) (N := 8) hx hb hts (fun w9 h9 => fz_m (fin_X9 w9 h9)) hown hK hP 31 rfl rfl 0 (by decide) (hts _ (fz_m fm_9)) (fun _ h9 => h9) rfl dX9_account_155 ?_
  refine va_get (D := D) (ci := 11) (v := .ref (q 14)) (C := RX7) (T := TX7) (N := 6) hx hb hts (fun w9 h9 => fz_m (fin_X7 w9 h9)) hown hK hP 0 rfl rfl 2 (by decide) (hts _ (fz_m fm_21)) (fun _ h9 => h9) rfl dX9_account_158 ?_
  refine va_get (D := D) (ci := 4) (v := .ref (q 20)) (C := RX0) (T := TX0) (N := 9) hx hb hts (fun w9 h9 => fz_m (fin_X0 w9 h9)) hown hK hP 14 rfl rfl 8 (by decide) (hts _ (fz_m fm_178)) (fun _ h9 => h9) rfl dX9_account_161 ?_
  refine lv_aload_n hx hb dX9_account_164 rfl (lv_at hl 0 rfl) ?_
  refine va_get (D := D) (ci := 13) (v := .ref (q 0)) (C := RX9) (T := TX9) (N := 8) hx hb hts (fun w9 h9 => fz_m (fin_X9 w9 h9)) hown hK hP 31 rfl rfl 0 (by decide) (hts _ (fz_m fm_9)) (fun _ h9 => h9) rfl dX9_account_165 ?_
  refine va_get (D := D) (ci := 11) (v := .ref (q 1)) (C := RX7) (T := TX7) (N := 6) hx hb hts (fun w9 h9 => fz_m (fin_X7 w9 h9)) hown hK hP 0 rfl rfl 0 (by decide) (hts _ (fz_m fm_10)) (fun _ h9 => h9) rfl dX9_account_168 ?_
  refine fz_cVi (As := [.ref (q 1)]) (rest := []) S0 (c_countReferring l A D k q f pa v g_v_6) (fz_cwV (C := RX3) 1 hts fm_179 fm_180 fm_181 fm_182 fm_183 rfl rfl ⟨by decide, by decide, by decide +kernel⟩ ⟨Nat.le_of_ble_eq_true rfl, Nat.le_of_ble_eq_true rfl⟩) (va_recv hK hP (ci := 7) (q0 := 20) rfl rfl) (fun _ h9 => h9) (fun a9 h9 => hA a9 (Nat.le_trans hS.1 h9)) hG hS hP hK hD rfl hl.1 rfl (Nat.le_of_ble_eq_true rfl) dX9_account_171 ⟨Nat.le_of_ble_eq_true rfl, Nat.le_of_ble_eq_true rfl⟩ (fun r_8 u_8 H locs hw hz1 hk1 hP hS => ?_)
  have hP : va_P D vwCl (fz_WC k q f pa v) H := hP
  obtain rfl : r_8 = 0 := hw
  have hP : va_P D vwCl [] H := fz_nil
  exact vx_ret (fz_iret hx hb hr rfl hlocks hS dX9_account_174 () (Or.inr ⟨rfl, (fq_74 )⟩) hP (Nat.le_of_ble_eq_true rfl) (Nat.le_of_ble_eq_true rfl))

set_option maxHeartbeats 4000000 in
set_option maxRecDepth 100000 in
theorem c_dayCount (l : Launch) (hl0 : l.stackTraces = false) (A : Nat → Prop) (D : va_G) (k : Nat → ClassId) (q : Nat → Nat) (f : Nat → Nat → Int32) (pa : Nat → Option Nat) (v : Nat → Int32) (p0 p1 : Int32) (g_v_8 : v 8 = 0) (g_v_2 : v 2 = 1) (g_f_2_0 : f 2 0 = 0) (g_f_7_0 : f 7 0 = 0)  :
    vx_Met l yX9_dayCount (fz_ws yX9_dayCount cX9_dayCount 3 (some .int)) { frames := 24, cells := 2, slots := 12, locals := 320 } (va_Pc [.ref (q 31), .int p0, .int p1] (fz_PC A D (fz_tys k) (fz_WC k q f pa v))) (fz_QI D A (fun (_ : Unit) => ([] : va_W)) (fun (r : Int32) (_ : Unit) => r = 0 ∧ ((0 ≤ p0 ∧ p0 ≤ 9999) ∧ (0 ≤ p1 ∧ p1 ≤ 3)))) (fz_XC (fun E => (E = "java/lang/IllegalArgumentException" ∧ (¬ ((0 ≤ p0 ∧ p0 ≤ 9999)) ∨ ¬ ((0 ≤ p1 ∧ p1 ≤ 3))))) A) 2 12 A := by
  refine fz_ofX (by decide +kernel) (Nat.le_of_ble_eq_true rfl) ?_
  intro p e s m below meth c hx hb hr hml hown hlocks hts ht hA hP hK hD hG hS ls hl
  have hown : s.vm.findClass RX9 = some m.cls := hown
  have S0 : CallFix p m c cX9_dayCount 3 s [.ref (q 31), .int p0, .int p1].toArray (fz_ws yX9_dayCount cX9_dayCount 3 (some .int)) RX9 := ⟨hx, hb, hml, hown, hts⟩
  have hl : lv_has ls 3 [(0, .ref (q 31)), (1, .int p0), (2, .int p1)] := hl
  refine lv_iload_n hx hb dX9_dayCount_0 rfl (lv_at hl 1 rfl) ?_
  refine fz_xSv (As := [.int p0]) (rest := []) S0 (c_reqDay l hl0 A D k q f pa v p0) (fz_cwS 1 hts fm_135 fm_136 fm_137 fm_6 rfl rfl ⟨by decide, by decide, by decide +kernel⟩ ⟨Nat.le_of_ble_eq_true rfl, Nat.le_of_ble_eq_true rfl⟩) (fun _ h9 => h9) (fun a9 h9 => hA a9 (Nat.le_trans hS.1 h9)) hG hS hP hK hD rfl hl.1 rfl (Nat.le_of_ble_eq_true rfl) dX9_dayCount_1 ⟨Nat.le_of_ble_eq_true rfl, Nat.le_of_ble_eq_true rfl⟩ ht hlocks (fun E hE => by obtain ⟨rfl, h9⟩ := hE; exact ⟨rfl, (fq_75 p0 p1 h9)⟩) ⟨Nat.le_of_ble_eq_true rfl, Nat.le_of_ble_eq_true rfl⟩ (fun u_1 H locs hw hz1 hk1 hP hS => ?_)
  have hP : va_P D vwCl (fz_WC k q f pa v) H := hP
  have hq_1 : (0 ≤ p0 ∧ p0 ≤ 9999) := hw
  refine lv_iload_n hx hb dX9_dayCount_4 rfl (lv_at hl 2 rfl) ?_
  refine lv_iconst (v := 3) hx hb dX9_dayCount_5 (by decide) ?_
  refine fz_xSv (As := [.int p1, .int 3]) (rest := []) S0 (c_reqPart l hl0 A D k q f pa v p1 3) (fz_cwS 2 hts fm_105 fm_106 fm_107 fm_6 rfl rfl ⟨by decide, by decide, by decide +kernel⟩ ⟨Nat.le_of_ble_eq_true rfl, Nat.le_of_ble_eq_true rfl⟩) (fun _ h9 => h9) (fun a9 h9 => hA a9 (Nat.le_trans hS.1 h9)) hG hS hP hK hD rfl hl.1 rfl (Nat.le_of_ble_eq_true rfl) dX9_dayCount_6 ⟨Nat.le_of_ble_eq_true rfl, Nat.le_of_ble_eq_true rfl⟩ ht hlocks (fun E hE => by obtain ⟨rfl, h9⟩ := hE; exact ⟨rfl, (fq_76 p0 p1 h9)⟩) ⟨Nat.le_of_ble_eq_true rfl, Nat.le_of_ble_eq_true rfl⟩ (fun u_2 H locs hw hz1 hk1 hP hS => ?_)
  have hP : va_P D vwCl (fz_WC k q f pa v) H := hP
  have hq_2 : (0 ≤ p1 ∧ p1 ≤ 3) := hw
  refine lv_iload_n hx hb dX9_dayCount_9 rfl (lv_at hl 2 rfl) ?_
  by_cases c_3_0 : p1 = 0
  · subst c_3_0
    refine lv_tableIn (off := 26) (tgt := 36) hx hb dX9_dayCount_10 (by decide) (by decide) rfl (by decide) ?_
    refine lv_aload_n hx hb dX9_dayCount_36 rfl (lv_at hl 0 rfl) ?_
    refine va_get (D := D) (ci := 13) (v := .ref (q 0)) (C := RX9) (T := TX9) (N := 8) hx hb hts (fun w9 h9 => fz_m (fin_X9 w9 h9)) hown hK hP 31 rfl rfl 0 (by decide) (hts _ (fz_m fm_9)) (fun _ h9 => h9) rfl dX9_dayCount_37 ?_
    refine va_get (D := D) (ci := 11) (v := .ref (q 26)) (C := RX7) (T := TX7) (N := 6) hx hb hts (fun w9 h9 => fz_m (fin_X7 w9 h9)) hown hK hP 0 rfl rfl 4 (by decide) (hts _ (fz_m fm_33)) (fun _ h9 => h9) rfl dX9_dayCount_40 ?_
    refine lv_iload_n hx hb dX9_dayCount_43 rfl (lv_at hl 1 rfl) ?_
    refine fz_cVi (As := [.int p0]) (rest := []) S0 (c_countOn l A D k q f pa v p0 g_v_8) (fz_cwV (C := RX5) 1 hts fm_184 fm_185 fm_186 fm_187 fm_177 rfl rfl ⟨by decide, by decide, by decide +kernel⟩ ⟨Nat.le_of_ble_eq_true rfl, Nat.le_of_ble_eq_true rfl⟩) (va_recv hK hP (ci := 9) (q0 := 26) rfl rfl) (fun _ h9 => h9) (fun a9 h9 => hA a9 (Nat.le_trans hS.1 h9)) hG hS hP hK hD rfl hl.1 rfl (Nat.le_of_ble_eq_true rfl) dX9_dayCount_44 ⟨Nat.le_of_ble_eq_true rfl, Nat.le_of_ble_eq_true rfl⟩ (fun r_4 u_4 H locs hw hz1 hk1 hP hS => ?_)
    have hP : va_P D vwCl (fz_WC k q f pa v) H := hP
    obtain rfl : r_4 = 0 := hw
    have hP : va_P D vwCl [] H := fz_nil
    exact vx_ret (fz_iret hx hb hr rfl hlocks hS dX9_dayCount_47 () ⟨rfl, (fq_77 p0 hq_1)⟩ hP (Nat.le_of_ble_eq_true rfl) (Nat.le_of_ble_eq_true rfl))
  by_cases c_3_1 : p1 = 1
  · subst c_3_1
    refine lv_tableIn (off := 38) (tgt := 48) hx hb dX9_dayCount_10 (by decide) (by decide) rfl (by decide) ?_
    refine lv_aload_n hx hb dX9_dayCount_48 rfl (lv_at hl 0 rfl) ?_
    refine va_get (D := D) (ci := 13) (v := .ref (q 0)) (C := RX9) (T := TX9) (N := 8) hx hb hts (fun w9 h9 => fz_m (fin_X9 w9 h9)) hown hK hP 31 rfl rfl 0 (by decide) (hts _ (fz_m fm_9)) (fun _ h9 => h9) rfl dX9_dayCount_49 ?_
    refine va_get (D := D) (ci := 11) (v := .ref (q 26)) (C := RX7) (T := TX7) (N := 6) hx hb hts (fun w9 h9 => fz_m (fin_X7 w9 h9)) hown hK hP 0 rfl rfl 4 (by decide) (hts _ (fz_m fm_33)) (fun _ h9 => h9) rfl dX9_dayCount_52 ?_
    refine lv_iload_n hx hb dX9_dayCount_55 rfl (lv_at hl 1 rfl) ?_
    refine fz_cVi (As := [.int p0]) (rest := []) S0 (c_countReaders l A D k q f pa v p0 g_v_8) (fz_cwV (C := RX5) 1 hts fm_188 fm_189 fm_190 fm_191 fm_177 rfl rfl ⟨by decide, by decide, by decide +kernel⟩ ⟨Nat.le_of_ble_eq_true rfl, Nat.le_of_ble_eq_true rfl⟩) (va_recv hK hP (ci := 9) (q0 := 26) rfl rfl) (fun _ h9 => h9) (fun a9 h9 => hA a9 (Nat.le_trans hS.1 h9)) hG hS hP hK hD rfl hl.1 rfl (Nat.le_of_ble_eq_true rfl) dX9_dayCount_56 ⟨Nat.le_of_ble_eq_true rfl, Nat.le_of_ble_eq_true rfl⟩ (fun r_5 u_5 H locs hw hz1 hk1 hP hS => ?_)
    have hP : va_P D vwCl (fz_WC k q f pa v) H := hP
    obtain rfl : r_5 = 0 := hw
    have hP : va_P D vwCl [] H := fz_nil
    exact vx_ret (fz_iret hx hb hr rfl hlocks hS dX9_dayCount_59 () ⟨rfl, (fq_78 p0 hq_1)⟩ hP (Nat.le_of_ble_eq_true rfl) (Nat.le_of_ble_eq_true rfl))
  by_cases c_3_2 : p1 = 2
  · subst c_3_2
    refine lv_tableIn (off := 50) (tgt := 60) hx hb dX9_dayCount_10 (by decide) (by decide) rfl (by decide) ?_
    refine lv_aload_n hx hb dX9_dayCount_60 rfl (lv_at hl 0 rfl) ?_
    refine va_get (D := D) (ci := 13) (v := .ref (q 0)) (C := RX9) (T := TX9) (N := 8) hx hb hts (fun w9 h9 => fz_m (fin_X9 w9 h9)) hown hK hP 31 rfl rfl 0 (by decide) (hts _ (fz_m fm_9)) (fun _ h9 => h9) rfl dX9_dayCount_61 ?_
    refine lv_iload_n hx hb dX9_dayCount_64 rfl (lv_at hl 1 rfl) ?_
    refine fz_cVi (As := [.int p0]) (rest := []) S0 (c_countOpenUnits l A D k q f pa v p0 g_v_2 g_f_2_0 g_f_7_0) (fz_cwV (C := RX7) 1 hts fm_192 fm_193 fm_194 fm_195 fm_172 rfl rfl ⟨by decide, by decide, by decide +kernel⟩ ⟨Nat.le_of_ble_eq_true rfl, Nat.le_of_ble_eq_true rfl⟩) (va_recv hK hP (ci := 11) (q0 := 0) rfl rfl) (fun _ h9 => h9) (fun a9 h9 => hA a9 (Nat.le_trans hS.1 h9)) hG hS hP hK hD rfl hl.1 rfl (Nat.le_of_ble_eq_true rfl) dX9_dayCount_65 ⟨Nat.le_of_ble_eq_true rfl, Nat.le_of_ble_eq_true rfl⟩ (fun r_6 u_6 H locs hw hz1 hk1 hP hS => ?_)
    have hP : va_P D vwCl (fz_WC k q f pa v) H := hP
    obtain rfl : r_6 = 0 := hw
    have hP : va_P D vwCl [] H := fz_nil
    exact vx_ret (fz_iret hx hb hr rfl hlocks hS dX9_dayCount_68 () ⟨rfl, (fq_79 p0 hq_1)⟩ hP (Nat.le_of_ble_eq_true rfl) (Nat.le_of_ble_eq_true rfl))
  obtain rfl : p1 = 3 := (fq_80 p1 hq_2 c_3_0 c_3_1 c_3_2)
  refine lv_tableOut (tgt := 69) hx hb dX9_dayCount_10 (by decide) (by decide) ?_
  refine lv_aload_n hx hb dX9_dayCount_69 rfl (lv_at hl 0 rfl) ?_
  refine va_get (D := D) (ci := 13) (v := .ref (q 0)) (C := RX9) (T := TX9) (N := 8) hx hb hts (fun w9 h9 => fz_m (fin_X9 w9 h9)) hown hK hP 31 rfl rfl 0 (by decide) (hts _ (fz_m fm_9)) (fun _ h9 => h9) rfl dX9_dayCount_70 ?_
  refine lv_iload_n hx hb dX9_dayCount_73 rfl (lv_at hl 1 rfl) ?_
  refine fz_cVi (As := [.int p0]) (rest := []) S0 (c_countOpenPages l A D k q f pa v p0 g_v_2 g_f_2_0 g_f_7_0) (fz_cwV (C := RX7) 1 hts fm_196 fm_197 fm_198 fm_199 fm_172 rfl rfl ⟨by decide, by decide, by decide +kernel⟩ ⟨Nat.le_of_ble_eq_true rfl, Nat.le_of_ble_eq_true rfl⟩) (va_recv hK hP (ci := 11) (q0 := 0) rfl rfl) (fun _ h9 => h9) (fun a9 h9 => hA a9 (Nat.le_trans hS.1 h9)) hG hS hP hK hD rfl hl.1 rfl (Nat.le_of_ble_eq_true rfl) dX9_dayCount_74 ⟨Nat.le_of_ble_eq_true rfl, Nat.le_of_ble_eq_true rfl⟩ (fun r_7 u_7 H locs hw hz1 hk1 hP hS => ?_)
  have hP : va_P D vwCl (fz_WC k q f pa v) H := hP
  obtain rfl : r_7 = 0 := hw
  have hP : va_P D vwCl [] H := fz_nil
  exact vx_ret (fz_iret hx hb hr rfl hlocks hS dX9_dayCount_77 () ⟨rfl, (fq_81 p0 hq_1)⟩ hP (Nat.le_of_ble_eq_true rfl) (Nat.le_of_ble_eq_true rfl))

set_option maxHeartbeats 4000000 in
set_option maxRecDepth 100000 in
theorem c_openShare (l : Launch) (hl0 : l.stackTraces = false) (A : Nat → Prop) (D : va_G) (k : Nat → ClassId) (q : Nat → Nat) (f : Nat → Nat → Int32) (pa : Nat → Option Nat) (v : Nat → Int32) (p0 : Int32) (g_v_2 : v 2 = 1) (g_f_6_0 : f 6 0 = 0) (g_f_2_0 : f 2 0 = 0) (g_f_7_0 : f 7 0 = 0)  :
    vx_Met l yX9_openShare (fz_ws yX9_openShare cX9_openShare 3 (some .double)) { frames := 24, cells := 2, slots := 12, locals := 320 } (va_Pc [.ref (q 31), .int p0] (fz_PC A D (fz_tys k) (fz_WC k q f pa v))) (va_Qd (fun (_ : UInt64) (_ : Unit) => False) (fun _ _ => True) A) (fz_XC (fun E => (E = "java/lang/IllegalArgumentException" ∧ ¬ ((0 ≤ p0 ∧ p0 ≤ 9999))) ∨ (E = "java/lang/ArithmeticException" ∧ (0 ≤ p0 ∧ p0 ≤ 9999))) A) 2 12 A := by
  refine fz_ofX (by decide +kernel) (Nat.le_of_ble_eq_true rfl) ?_
  intro p e s m below meth c hx hb hr hml hown hlocks hts ht hA hP hK hD hG hS ls hl
  have hown : s.vm.findClass RX9 = some m.cls := hown
  have S0 : CallFix p m c cX9_openShare 3 s [.ref (q 31), .int p0].toArray (fz_ws yX9_openShare cX9_openShare 3 (some .double)) RX9 := ⟨hx, hb, hml, hown, hts⟩
  have hl : lv_has ls 3 [(0, .ref (q 31)), (1, .int p0)] := hl
  refine lv_iload_n hx hb dX9_openShare_0 rfl (lv_at hl 1 rfl) ?_
  refine fz_xSv (As := [.int p0]) (rest := []) S0 (c_reqDay l hl0 A D k q f pa v p0) (fz_cwS 1 hts fm_135 fm_136 fm_137 fm_6 rfl rfl ⟨by decide, by decide, by decide +kernel⟩ ⟨Nat.le_of_ble_eq_true rfl, Nat.le_of_ble_eq_true rfl⟩) (fun _ h9 => h9) (fun a9 h9 => hA a9 (Nat.le_trans hS.1 h9)) hG hS hP hK hD rfl hl.1 rfl (Nat.le_of_ble_eq_true rfl) dX9_openShare_1 ⟨Nat.le_of_ble_eq_true rfl, Nat.le_of_ble_eq_true rfl⟩ ht hlocks (fun E hE => by obtain ⟨rfl, h9⟩ := hE; exact (Or.inl ⟨rfl, (fq_34 p0 h9)⟩)) ⟨Nat.le_of_ble_eq_true rfl, Nat.le_of_ble_eq_true rfl⟩ (fun u_1 H locs hw hz1 hk1 hP hS => ?_)
  have hP : va_P D vwCl (fz_WC k q f pa v) H := hP
  have hq_1 : (0 ≤ p0 ∧ p0 ≤ 9999) := hw
  refine lv_aload_n hx hb dX9_openShare_4 rfl (lv_at hl 0 rfl) ?_
  refine va_get (D := D) (ci := 13) (v := .ref (q 0)) (C := RX9) (T := TX9) (N := 8) hx hb hts (fun w9 h9 => fz_m (fin_X9 w9 h9)) hown hK hP 31 rfl rfl 0 (by decide) (hts _ (fz_m fm_9)) (fun _ h9 => h9) rfl dX9_openShare_5 ?_
  refine va_get (D := D) (ci := 11) (v := .ref (q 1)) (C := RX7) (T := TX7) (N := 6) hx hb hts (fun w9 h9 => fz_m (fin_X7 w9 h9)) hown hK hP 0 rfl rfl 0 (by decide) (hts _ (fz_m fm_10)) (fun _ h9 => h9) rfl dX9_openShare_8 ?_
  refine lv_iconst (v := 0) hx hb dX9_openShare_11 (by decide) ?_
  refine fz_cVi (As := [.int 0]) (rest := []) S0 (c_countPages l A D k q f pa v g_v_2 g_f_6_0 g_f_2_0 g_f_7_0) (fz_cwV (C := RX8) 1 hts fm_117 fm_118 fm_119 fm_120 fm_15 rfl rfl ⟨by decide, by decide, by decide +kernel⟩ ⟨Nat.le_of_ble_eq_true rfl, Nat.le_of_ble_eq_true rfl⟩) (va_recv hK hP (ci := 12) (q0 := 1) rfl rfl) (fun _ h9 => h9) (fun a9 h9 => hA a9 (Nat.le_trans hS.1 h9)) hG hS hP hK hD rfl hl.1 rfl (Nat.le_of_ble_eq_true rfl) dX9_openShare_12 ⟨Nat.le_of_ble_eq_true rfl, Nat.le_of_ble_eq_true rfl⟩ (fun r_2 u_2 H locs hw hz1 hk1 hP hS => ?_)
  have hP : va_P D vwCl (fz_WC k q f pa v) H := hP
  obtain rfl : r_2 = 0 := hw
  refine lv_istore_n (lv' := [(2, .int 0), (0, .ref (q 31)), (1, .int p0)]) hx hb dX9_openShare_15 rfl hl (by decide) rfl (fun ls hl => ?_)
  refine lv_iload_n hx hb dX9_openShare_16 rfl (lv_at hl 0 rfl) ?_
  refine lv_if_ne (tgt := 31) hx hb dX9_openShare_17 (by decide) (fun c_3 => absurd (by decide) c_3) (fun c_3 => ?_)
  exact fz_throwW (cls := "java/lang/ArithmeticException") (text := "there are no units") (names := fz_EN) (ik := 416) (is := 418) (ic := 420) hx hb hl0 hown hts hG (fz_fit_420) ⟨fm_200, fm_201⟩ (by decide) fz_at_420 fz_ok_420 hS (hl.1.trans hml.symm) dX9_openShare_20 dX9_openShare_23 dX9_openShare_24 dX9_openShare_27 dX9_openShare_30 ht hlocks ⟨Nat.le_of_ble_eq_true rfl, Nat.le_of_ble_eq_true rfl, Nat.le_of_ble_eq_true rfl, Nat.le_of_ble_eq_true rfl⟩ (Or.inr ⟨rfl, (fq_33 p0 hq_1)⟩) ⟨Nat.le_of_ble_eq_true rfl, Nat.le_of_ble_eq_true rfl⟩

set_option maxHeartbeats 4000000 in
set_option maxRecDepth 100000 in
theorem c_text (l : Launch) (hl0 : l.stackTraces = false) (A : Nat → Prop) (D : va_G) (k : Nat → ClassId) (q : Nat → Nat) (f : Nat → Nat → Int32) (pa : Nat → Option Nat) (v : Nat → Int32) (p0 : Int32) (g_v_17 : v 17 = 0)  :
    vx_Met l yX9_text (fz_ws yX9_text cX9_text 2 (some .char)) { frames := 24, cells := 1, slots := 6, locals := 320 } (va_Pc [.ref (q 31), .int p0] (fz_PC A D (fz_tys k) (fz_WC k q f pa v))) (fz_QI D A (fun (_ : Unit) => ([] : va_W)) (fun (r : Int32) (_ : Unit) => False)) (fz_XC (fun E => (E = "java/lang/IndexOutOfBoundsException" ∧ True)) A) 1 6 A := by
  refine fz_ofX (by decide +kernel) (Nat.le_of_ble_eq_true rfl) ?_
  intro p e s m below meth c hx hb hr hml hown hlocks hts ht hA hP hK hD hG hS ls hl
  have hown : s.vm.findClass RX9 = some m.cls := hown
  have S0 : CallFix p m c cX9_text 2 s [.ref (q 31), .int p0].toArray (fz_ws yX9_text cX9_text 2 (some .char)) RX9 := ⟨hx, hb, hml, hown, hts⟩
  have hl : lv_has ls 2 [(0, .ref (q 31)), (1, .int p0)] := hl
  refine lv_iload_n hx hb dX9_text_0 rfl (lv_at hl 1 rfl) ?_
  refine lv_if_lt (tgt := 15) hx hb dX9_text_1 (by decide) (fun c_1 => ?_) (fun c_1 => ?_)
  · skip
    exact fz_throwW (cls := "java/lang/IndexOutOfBoundsException") (text := "no such index") (names := fz_EN) (ik := 161) (is := 474) (ic := 165) hx hb hl0 hown hts hG (fz_fit_165) ⟨fm_16, fm_17⟩ (by decide) fz_at_165 fz_ok_165 hS (hl.1.trans hml.symm) dX9_text_15 dX9_text_18 dX9_text_19 dX9_text_22 dX9_text_25 ht hlocks ⟨Nat.le_of_ble_eq_true rfl, Nat.le_of_ble_eq_true rfl, Nat.le_of_ble_eq_true rfl, Nat.le_of_ble_eq_true rfl⟩ ⟨rfl, trivial⟩ ⟨Nat.le_of_ble_eq_true rfl, Nat.le_of_ble_eq_true rfl⟩
  · skip
    refine lv_iload_n hx hb dX9_text_4 rfl (lv_at hl 1 rfl) ?_
    refine lv_aload_n hx hb dX9_text_5 rfl (lv_at hl 0 rfl) ?_
    refine va_get (D := D) (ci := 13) (v := .ref (q 35)) (C := RX9) (T := TX9) (N := 8) hx hb hts (fun w9 h9 => fz_m (fin_X9 w9 h9)) hown hK hP 31 rfl rfl 7 (by decide) (hts _ (fz_m fm_202)) (fun _ h9 => h9) rfl dX9_text_6 ?_
    refine fz_cVi (As := []) (rest := [.int p0]) S0 (c_len l A D k q f pa v g_v_17) (fz_cwV (C := RJ4) 0 hts fm_203 fm_204 fm_205 fm_206 fm_207 rfl rfl ⟨by decide, by decide, by decide +kernel⟩ ⟨Nat.le_of_ble_eq_true rfl, Nat.le_of_ble_eq_true rfl⟩) (va_recv hK hP (ci := 1) (q0 := 35) rfl rfl) (fun _ h9 => h9) (fun a9 h9 => hA a9 (Nat.le_trans hS.1 h9)) hG hS hP hK hD rfl hl.1 rfl (Nat.le_of_ble_eq_true rfl) dX9_text_9 ⟨Nat.le_of_ble_eq_true rfl, Nat.le_of_ble_eq_true rfl⟩ (fun r_2 u_2 H locs hw hz1 hk1 hP hS => ?_)
    have hP : va_P D vwCl (fz_WC k q f pa v) H := hP
    obtain rfl : r_2 = 0 := hw
    refine lv_icmp_lt (tgt := 26) hx hb dX9_text_12 (by decide) (fun c_3 => (fq_29 p0 c_1 c_3).elim) (fun c_3 => ?_)
    exact fz_throwW (cls := "java/lang/IndexOutOfBoundsException") (text := "no such index") (names := fz_EN) (ik := 161) (is := 474) (ic := 165) hx hb hl0 hown hts hG (fz_fit_165) ⟨fm_16, fm_17⟩ (by decide) fz_at_165 fz_ok_165 hS (hl.1.trans hml.symm) dX9_text_15 dX9_text_18 dX9_text_19 dX9_text_22 dX9_text_25 ht hlocks ⟨Nat.le_of_ble_eq_true rfl, Nat.le_of_ble_eq_true rfl, Nat.le_of_ble_eq_true rfl, Nat.le_of_ble_eq_true rfl⟩ ⟨rfl, trivial⟩ ⟨Nat.le_of_ble_eq_true rfl, Nat.le_of_ble_eq_true rfl⟩

set_option maxHeartbeats 4000000 in
set_option maxRecDepth 100000 in
theorem c_undo (l : Launch) (hl0 : l.stackTraces = false) (A : Nat → Prop) (D : va_G) (k : Nat → ClassId) (q : Nat → Nat) (f : Nat → Nat → Int32) (pa : Nat → Option Nat) (v : Nat → Int32) (g_v_9 : v 9 = 0) (g_pa_0 : pa 0 = none) (g_v_10 : v 10 = 0)  :
    vx_Met l yX9_undo (fz_ws yX9_undo cX9_undo 2 (some .int)) { frames := 12, cells := 1, slots := 6, locals := 160 } (va_Pc [.ref (q 31)] (fz_PC A D (fz_tys k) (fz_WC k q f pa v))) (fz_QI D A (fun (_ : Unit) => ([] : va_W)) (fun (r : Int32) (_ : Unit) => False)) (fz_XC (fun E => (E = "java/lang/IllegalStateException" ∧ True)) A) 1 6 A := by
  refine fz_ofX (by decide +kernel) (Nat.le_of_ble_eq_true rfl) ?_
  intro p e s m below meth c hx hb hr hml hown hlocks hts ht hA hP hK hD hG hS ls hl
  have hown : s.vm.findClass RX9 = some m.cls := hown
  have S0 : CallFix p m c cX9_undo 2 s [.ref (q 31)].toArray (fz_ws yX9_undo cX9_undo 2 (some .int)) RX9 := ⟨hx, hb, hml, hown, hts⟩
  have hl : lv_has ls 2 [(0, .ref (q 31))] := hl
  refine lv_aload_n hx hb dX9_undo_0 rfl (lv_at hl 0 rfl) ?_
  refine va_get (D := D) (ci := 13) (v := .ref (q 32)) (C := RX9) (T := TX9) (N := 8) hx hb hts (fun w9 h9 => fz_m (fin_X9 w9 h9)) hown hK hP 31 rfl rfl 1 (by decide) (hts _ (fz_m fm_208)) (fun _ h9 => h9) rfl dX9_undo_1 ?_
  refine lv_aload_n hx hb dX9_undo_4 rfl (lv_at hl 0 rfl) ?_
  refine va_get (D := D) (ci := 13) (v := .int (v 9)) (C := RX9) (T := TX9) (N := 8) hx hb hts (fun w9 h9 => fz_m (fin_X9 w9 h9)) hown hK hP 31 rfl rfl 2 (by decide) (hts _ (fz_m fm_209)) (fun _ h9 => h9) rfl dX9_undo_5 ?_
  refine fz_I (y := 0) g_v_9 ?_
  refine va_aldq hx hb hK hP 32 3 rfl rfl (fz_vin (by decide)) dX9_undo_8 ?_
  refine fz_V (y := .null) (by show va_rf (pa 0) = _; rw [g_pa_0]; rfl) ?_
  refine lv_astore_nN (lv' := [(1, .null), (0, .ref (q 31))]) hx hb dX9_undo_9 rfl hl (by decide) rfl (fun ls hl => ?_)
  refine lv_aload_n hx hb dX9_undo_10 rfl (lv_at hl 1 rfl) ?_
  refine va_get (D := D) (ci := 13) (v := .int (v 10)) (C := RX9) (T := TX9) (N := 8) hx hb hts (fun w9 h9 => fz_m (fin_X9 w9 h9)) hown hK hP 31 rfl rfl 3 (by decide) (hts _ (fz_m fm_210)) (fun _ h9 => h9) rfl dX9_undo_11 ?_
  refine fz_I (y := 0) g_v_10 ?_
  refine lv_if_eq (tgt := 21) hx hb dX9_undo_14 (by decide) (fun c_1 => ?_) (fun c_1 => absurd (by decide) c_1)
  exact fz_throwW (cls := "java/lang/IllegalStateException") (text := "no change can be taken back") (names := fz_EN) (ik := 79) (is := 480) (ic := 83) hx hb hl0 hown hts hG (fz_fit_83) ⟨fm_147, fm_148⟩ (by decide) fz_at_83 fz_ok_83 hS (hl.1.trans hml.symm) dX9_undo_21 dX9_undo_24 dX9_undo_25 dX9_undo_28 dX9_undo_31 ht hlocks ⟨Nat.le_of_ble_eq_true rfl, Nat.le_of_ble_eq_true rfl, Nat.le_of_ble_eq_true rfl, Nat.le_of_ble_eq_true rfl⟩ ⟨rfl, trivial⟩ ⟨Nat.le_of_ble_eq_true rfl, Nat.le_of_ble_eq_true rfl⟩

set_option maxHeartbeats 4000000 in
set_option maxRecDepth 100000 in
theorem c_restore (l : Launch) (hl0 : l.stackTraces = false) (A : Nat → Prop) (D : va_G) (k : Nat → ClassId) (q : Nat → Nat) (f : Nat → Nat → Int32) (pa : Nat → Option Nat) (v : Nat → Int32) (g_pa_8 : pa 8 = none)  :
    vx_Met l yX9_restore (fz_ws yX9_restore cX9_restore 1 (some .int)) { frames := 12, cells := 1, slots := 6, locals := 160 } (va_Pc [.ref (q 31)] (fz_PC A D (fz_tys k) (fz_WC k q f pa v))) (fz_QI D A (fun (_ : Unit) => ([] : va_W)) (fun (r : Int32) (_ : Unit) => False)) (fz_XC (fun E => (E = "java/lang/IllegalStateException" ∧ True)) A) 1 6 A := by
  refine fz_ofX (by decide +kernel) (Nat.le_of_ble_eq_true rfl) ?_
  intro p e s m below meth c hx hb hr hml hown hlocks hts ht hA hP hK hD hG hS ls hl
  have hown : s.vm.findClass RX9 = some m.cls := hown
  have S0 : CallFix p m c cX9_restore 1 s [.ref (q 31)].toArray (fz_ws yX9_restore cX9_restore 1 (some .int)) RX9 := ⟨hx, hb, hml, hown, hts⟩
  have hl : lv_has ls 1 [(0, .ref (q 31))] := hl
  refine lv_aload_n hx hb dX9_restore_0 rfl (lv_at hl 0 rfl) ?_
  refine va_get (D := D) (ci := 13) (v := va_rf (pa 8)) (C := RX9) (T := TX9) (N := 8) hx hb hts (fun w9 h9 => fz_m (fin_X9 w9 h9)) hown hK hP 31 rfl rfl 4 (by decide) (hts _ (fz_m fm_211)) (fun _ h9 => h9) rfl dX9_restore_1 ?_
  refine fz_V (y := .null) (by rw [g_pa_8]; rfl) ?_
  refine lv_ifnonnullN hx hb dX9_restore_4 ?_
  exact fz_throwW (cls := "java/lang/IllegalStateException") (text := "nothing was saved") (names := fz_EN) (ik := 79) (is := 486) (ic := 83) hx hb hl0 hown hts hG (fz_fit_83) ⟨fm_147, fm_148⟩ (by decide) fz_at_83 fz_ok_83 hS (hl.1.trans hml.symm) dX9_restore_7 dX9_restore_10 dX9_restore_11 dX9_restore_14 dX9_restore_17 ht hlocks ⟨Nat.le_of_ble_eq_true rfl, Nat.le_of_ble_eq_true rfl, Nat.le_of_ble_eq_true rfl, Nat.le_of_ble_eq_true rfl⟩ ⟨rfl, trivial⟩ ⟨Nat.le_of_ble_eq_true rfl, Nat.le_of_ble_eq_true rfl⟩

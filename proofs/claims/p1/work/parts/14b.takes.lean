set_option maxHeartbeats 4000000 in
set_option maxRecDepth 100000 in
theorem c_toTree (l : Launch) (A : Nat → Prop) (D : va_G) (k : Nat → ClassId) (q : Nat → Nat) (f : Nat → Nat → Int32) (pa : Nat → Option Nat) (v : Nat → Int32) (q2 : Nat → Nat) (f2 : Nat → Nat → Int32) (v2 : Nat → Int32) (g_v_1 : v 1 = 1) (g_v_2 : v 2 = 1)  :
    Met l yX8_takeOver (fz_ws yX8_takeOver cX8_takeOver 2 none) { frames := 12, cells := 0, slots := 0, locals := 160 } (va_Pc [.ref (q2 1), .ref (q 1)] (fz_PC A D (fz_tys k) (fz_W2 k q f pa v q2 f2 v2))) (fz_QV D A (fun (u : (Nat → Nat → Int32) × (Nat → Int32)) => fz_W2 k q f pa v q2 u.1 u.2) (fun (_ : (Nat → Nat → Int32) × (Nat → Int32)) => True)) 0 0 A := by
  refine fz_of (by decide +kernel) (Nat.le_of_ble_eq_true rfl) ?_
  intro p e s m below meth c hx hb hr hml hown hlocks hts hin hA hP hK hD hG hS ls hl
  have hown : s.vm.findClass RX8 = some m.cls := hown
  have S0 : CallFix p m c cX8_takeOver 2 s [.ref (q2 1), .ref (q 1)].toArray (fz_ws yX8_takeOver cX8_takeOver 2 none) RX8 := ⟨hx, hb, hml, hown, hts⟩
  have hl : lv_has ls 2 [(0, .ref (q2 1)), (1, .ref (q 1))] := hl
  refine lv_aload_n hx hb dX8_takeOver_0 rfl (lv_at hl 0 rfl) ?_
  refine lv_aload_n hx hb dX8_takeOver_1 rfl (lv_at hl 1 rfl) ?_
  refine va_get (D := D) (ci := 12) (v := .int (v 1)) (C := RX8) (T := TX8) (N := 10) hx hb hts (fun w9 h9 => fz_m (fin_X8 w9 h9)) hown hK hP 1 rfl rfl 0 (by decide) (hts _ (fz_m fm_0)) (fun _ h9 => h9) rfl dX8_takeOver_2 ?_
  refine fz_I (y := 1) g_v_1 ?_
  refine va_put (D := D) (ci := 12) (v := .int 1) (ty := .int) (C := RX8) (T := TX8) (N := 10) hx hb hts (fun w9 h9 => fz_m (fin_X8 w9 h9)) tyX8 tyX8_ok nmX8 hown hK hP hD hS 39 rfl rfl 0 (by decide) (hts _ (fz_m fm_0)) (fun _ h9 => h9) rfl (by decide +kernel) rfl rfl (Nat.le_of_ble_eq_true rfl) dX8_takeOver_5 (fun H locs hP hD hS => ?_)
  have hP : va_P D vwCl (fz_W2 k q f pa v q2 f2 (va_up v2 1 1)) H := hP
  have hD : va_D A (fz_W2 k q f pa v q2 f2 (va_up v2 1 1)) := hD
  refine lv_aload_n hx hb dX8_takeOver_8 rfl (lv_at hl 0 rfl) ?_
  refine lv_aload_n hx hb dX8_takeOver_9 rfl (lv_at hl 1 rfl) ?_
  refine va_get (D := D) (ci := 12) (v := .int (v 2)) (C := RX8) (T := TX8) (N := 10) hx hb hts (fun w9 h9 => fz_m (fin_X8 w9 h9)) hown hK hP 1 rfl rfl 1 (by decide) (hts _ (fz_m fm_2)) (fun _ h9 => h9) rfl dX8_takeOver_10 ?_
  refine fz_I (y := 1) g_v_2 ?_
  refine va_put (D := D) (ci := 12) (v := .int 1) (ty := .int) (C := RX8) (T := TX8) (N := 10) hx hb hts (fun w9 h9 => fz_m (fin_X8 w9 h9)) tyX8 tyX8_ok nmX8 hown hK hP hD hS 39 rfl rfl 1 (by decide) (hts _ (fz_m fm_2)) (fun _ h9 => h9) rfl (by decide +kernel) rfl rfl (Nat.le_of_ble_eq_true rfl) dX8_takeOver_13 (fun H locs hP hD hS => ?_)
  have hP : va_P D vwCl (fz_W2 k q f pa v q2 f2 (va_up (va_up v2 1 1) 2 1)) H := hP
  have hD : va_D A (fz_W2 k q f pa v q2 f2 (va_up (va_up v2 1 1) 2 1)) := hD
  refine lv_aload_n hx hb dX8_takeOver_16 rfl (lv_at hl 1 rfl) ?_
  refine va_get (D := D) (ci := 12) (v := .ref (q 2)) (C := RX8) (T := TX8) (N := 10) hx hb hts (fun w9 h9 => fz_m (fin_X8 w9 h9)) hown hK hP 1 rfl rfl 2 (by decide) (hts _ (fz_m fm_41)) (fun _ h9 => h9) rfl dX8_takeOver_17 ?_
  refine lv_iconst (v := 0) hx hb dX8_takeOver_20 (by decide) ?_
  refine lv_aload_n hx hb dX8_takeOver_21 rfl (lv_at hl 0 rfl) ?_
  refine va_get (D := D) (ci := 12) (v := .ref (q2 2)) (C := RX8) (T := TX8) (N := 10) hx hb hts (fun w9 h9 => fz_m (fin_X8 w9 h9)) hown hK hP 39 rfl rfl 2 (by decide) (hts _ (fz_m fm_41)) (fun _ h9 => h9) rfl dX8_takeOver_22 ?_
  refine lv_iconst (v := 0) hx hb dX8_takeOver_25 (by decide) ?_
  refine lv_bipush (v := 40) hx hb dX8_takeOver_26 (by decide) ?_
  refine va_copyi hx hb (hml.trans hl.1.symm) hown (hts _ (fz_m fm_253)) (hts _ (fz_m fm_254)) (hts _ (fz_m fm_255)) (hts _ (fz_m fm_256)) hK hP hD hS 2 40 0 0 rfl rfl rfl rfl rfl (by decide) (by decide) (by decide) (by decide) (by decide) (fun _ _ => rfl) (Nat.le_of_ble_eq_true rfl) (Nat.le_of_ble_eq_true rfl) dX8_takeOver_28 (fun H locs hP hD hS => ?_)
  have hP : va_P D vwCl (fz_W2 k q f pa v q2 (va_up f2 2 (va_cpy (f 2) (f2 2) (0 : Int32).toNatClampNeg (0 : Int32).toNatClampNeg (40 : Int32).toNatClampNeg)) (va_up (va_up v2 1 1) 2 1)) H := hP
  have hD : va_D A (fz_W2 k q f pa v q2 (va_up f2 2 (va_cpy (f 2) (f2 2) (0 : Int32).toNatClampNeg (0 : Int32).toNatClampNeg (40 : Int32).toNatClampNeg)) (va_up (va_up v2 1 1) 2 1)) := hD
  refine lv_aload_n hx hb dX8_takeOver_31 rfl (lv_at hl 1 rfl) ?_
  refine va_get (D := D) (ci := 12) (v := .ref (q 4)) (C := RX8) (T := TX8) (N := 10) hx hb hts (fun w9 h9 => fz_m (fin_X8 w9 h9)) hown hK hP 1 rfl rfl 4 (by decide) (hts _ (fz_m fm_1)) (fun _ h9 => h9) rfl dX8_takeOver_32 ?_
  refine lv_iconst (v := 0) hx hb dX8_takeOver_35 (by decide) ?_
  refine lv_aload_n hx hb dX8_takeOver_36 rfl (lv_at hl 0 rfl) ?_
  refine va_get (D := D) (ci := 12) (v := .ref (q2 4)) (C := RX8) (T := TX8) (N := 10) hx hb hts (fun w9 h9 => fz_m (fin_X8 w9 h9)) hown hK hP 39 rfl rfl 4 (by decide) (hts _ (fz_m fm_1)) (fun _ h9 => h9) rfl dX8_takeOver_37 ?_
  refine lv_iconst (v := 0) hx hb dX8_takeOver_40 (by decide) ?_
  refine lv_bipush (v := 40) hx hb dX8_takeOver_41 (by decide) ?_
  refine va_copyi hx hb (hml.trans hl.1.symm) hown (hts _ (fz_m fm_253)) (hts _ (fz_m fm_254)) (hts _ (fz_m fm_255)) (hts _ (fz_m fm_256)) hK hP hD hS 4 42 0 0 rfl rfl rfl rfl rfl (by decide) (by decide) (by decide) (by decide) (by decide) (fun _ _ => rfl) (Nat.le_of_ble_eq_true rfl) (Nat.le_of_ble_eq_true rfl) dX8_takeOver_43 (fun H locs hP hD hS => ?_)
  have hP : va_P D vwCl (fz_W2 k q f pa v q2 (va_up (va_up f2 2 (va_cpy (f 2) (f2 2) (0 : Int32).toNatClampNeg (0 : Int32).toNatClampNeg (40 : Int32).toNatClampNeg)) 4 (va_cpy (f 4) (f2 4) (0 : Int32).toNatClampNeg (0 : Int32).toNatClampNeg (40 : Int32).toNatClampNeg)) (va_up (va_up v2 1 1) 2 1)) H := hP
  have hD : va_D A (fz_W2 k q f pa v q2 (va_up (va_up f2 2 (va_cpy (f 2) (f2 2) (0 : Int32).toNatClampNeg (0 : Int32).toNatClampNeg (40 : Int32).toNatClampNeg)) 4 (va_cpy (f 4) (f2 4) (0 : Int32).toNatClampNeg (0 : Int32).toNatClampNeg (40 : Int32).toNatClampNeg)) (va_up (va_up v2 1 1) 2 1)) := hD
  refine lv_aload_n hx hb dX8_takeOver_46 rfl (lv_at hl 1 rfl) ?_
  refine va_get (D := D) (ci := 12) (v := .ref (q 5)) (C := RX8) (T := TX8) (N := 10) hx hb hts (fun w9 h9 => fz_m (fin_X8 w9 h9)) hown hK hP 1 rfl rfl 5 (by decide) (hts _ (fz_m fm_47)) (fun _ h9 => h9) rfl dX8_takeOver_47 ?_
  refine lv_iconst (v := 0) hx hb dX8_takeOver_50 (by decide) ?_
  refine lv_aload_n hx hb dX8_takeOver_51 rfl (lv_at hl 0 rfl) ?_
  refine va_get (D := D) (ci := 12) (v := .ref (q2 5)) (C := RX8) (T := TX8) (N := 10) hx hb hts (fun w9 h9 => fz_m (fin_X8 w9 h9)) hown hK hP 39 rfl rfl 5 (by decide) (hts _ (fz_m fm_47)) (fun _ h9 => h9) rfl dX8_takeOver_52 ?_
  refine lv_iconst (v := 0) hx hb dX8_takeOver_55 (by decide) ?_
  refine lv_bipush (v := 40) hx hb dX8_takeOver_56 (by decide) ?_
  refine va_copyi hx hb (hml.trans hl.1.symm) hown (hts _ (fz_m fm_253)) (hts _ (fz_m fm_254)) (hts _ (fz_m fm_255)) (hts _ (fz_m fm_256)) hK hP hD hS 5 43 0 0 rfl rfl rfl rfl rfl (by decide) (by decide) (by decide) (by decide) (by decide) (fun _ _ => rfl) (Nat.le_of_ble_eq_true rfl) (Nat.le_of_ble_eq_true rfl) dX8_takeOver_58 (fun H locs hP hD hS => ?_)
  have hP : va_P D vwCl (fz_W2 k q f pa v q2 (va_up (va_up (va_up f2 2 (va_cpy (f 2) (f2 2) (0 : Int32).toNatClampNeg (0 : Int32).toNatClampNeg (40 : Int32).toNatClampNeg)) 4 (va_cpy (f 4) (f2 4) (0 : Int32).toNatClampNeg (0 : Int32).toNatClampNeg (40 : Int32).toNatClampNeg)) 5 (va_cpy (f 5) (f2 5) (0 : Int32).toNatClampNeg (0 : Int32).toNatClampNeg (40 : Int32).toNatClampNeg)) (va_up (va_up v2 1 1) 2 1)) H := hP
  have hD : va_D A (fz_W2 k q f pa v q2 (va_up (va_up (va_up f2 2 (va_cpy (f 2) (f2 2) (0 : Int32).toNatClampNeg (0 : Int32).toNatClampNeg (40 : Int32).toNatClampNeg)) 4 (va_cpy (f 4) (f2 4) (0 : Int32).toNatClampNeg (0 : Int32).toNatClampNeg (40 : Int32).toNatClampNeg)) 5 (va_cpy (f 5) (f2 5) (0 : Int32).toNatClampNeg (0 : Int32).toNatClampNeg (40 : Int32).toNatClampNeg)) (va_up (va_up v2 1 1) 2 1)) := hD
  refine lv_aload_n hx hb dX8_takeOver_61 rfl (lv_at hl 1 rfl) ?_
  refine va_get (D := D) (ci := 12) (v := .ref (q 6)) (C := RX8) (T := TX8) (N := 10) hx hb hts (fun w9 h9 => fz_m (fin_X8 w9 h9)) hown hK hP 1 rfl rfl 6 (by decide) (hts _ (fz_m fm_39)) (fun _ h9 => h9) rfl dX8_takeOver_62 ?_
  refine lv_iconst (v := 0) hx hb dX8_takeOver_65 (by decide) ?_
  refine lv_aload_n hx hb dX8_takeOver_66 rfl (lv_at hl 0 rfl) ?_
  refine va_get (D := D) (ci := 12) (v := .ref (q2 6)) (C := RX8) (T := TX8) (N := 10) hx hb hts (fun w9 h9 => fz_m (fin_X8 w9 h9)) hown hK hP 39 rfl rfl 6 (by decide) (hts _ (fz_m fm_39)) (fun _ h9 => h9) rfl dX8_takeOver_67 ?_
  refine lv_iconst (v := 0) hx hb dX8_takeOver_70 (by decide) ?_
  refine lv_bipush (v := 40) hx hb dX8_takeOver_71 (by decide) ?_
  refine va_copyi hx hb (hml.trans hl.1.symm) hown (hts _ (fz_m fm_253)) (hts _ (fz_m fm_254)) (hts _ (fz_m fm_255)) (hts _ (fz_m fm_256)) hK hP hD hS 6 44 0 0 rfl rfl rfl rfl rfl (by decide) (by decide) (by decide) (by decide) (by decide) (fun _ _ => rfl) (Nat.le_of_ble_eq_true rfl) (Nat.le_of_ble_eq_true rfl) dX8_takeOver_73 (fun H locs hP hD hS => ?_)
  have hP : va_P D vwCl (fz_W2 k q f pa v q2 (va_up (va_up (va_up (va_up f2 2 (va_cpy (f 2) (f2 2) (0 : Int32).toNatClampNeg (0 : Int32).toNatClampNeg (40 : Int32).toNatClampNeg)) 4 (va_cpy (f 4) (f2 4) (0 : Int32).toNatClampNeg (0 : Int32).toNatClampNeg (40 : Int32).toNatClampNeg)) 5 (va_cpy (f 5) (f2 5) (0 : Int32).toNatClampNeg (0 : Int32).toNatClampNeg (40 : Int32).toNatClampNeg)) 6 (va_cpy (f 6) (f2 6) (0 : Int32).toNatClampNeg (0 : Int32).toNatClampNeg (40 : Int32).toNatClampNeg)) (va_up (va_up v2 1 1) 2 1)) H := hP
  have hD : va_D A (fz_W2 k q f pa v q2 (va_up (va_up (va_up (va_up f2 2 (va_cpy (f 2) (f2 2) (0 : Int32).toNatClampNeg (0 : Int32).toNatClampNeg (40 : Int32).toNatClampNeg)) 4 (va_cpy (f 4) (f2 4) (0 : Int32).toNatClampNeg (0 : Int32).toNatClampNeg (40 : Int32).toNatClampNeg)) 5 (va_cpy (f 5) (f2 5) (0 : Int32).toNatClampNeg (0 : Int32).toNatClampNeg (40 : Int32).toNatClampNeg)) 6 (va_cpy (f 6) (f2 6) (0 : Int32).toNatClampNeg (0 : Int32).toNatClampNeg (40 : Int32).toNatClampNeg)) (va_up (va_up v2 1 1) 2 1)) := hD
  refine lv_aload_n hx hb dX8_takeOver_76 rfl (lv_at hl 1 rfl) ?_
  refine va_get (D := D) (ci := 12) (v := .ref (q 7)) (C := RX8) (T := TX8) (N := 10) hx hb hts (fun w9 h9 => fz_m (fin_X8 w9 h9)) hown hK hP 1 rfl rfl 7 (by decide) (hts _ (fz_m fm_46)) (fun _ h9 => h9) rfl dX8_takeOver_77 ?_
  refine lv_iconst (v := 0) hx hb dX8_takeOver_80 (by decide) ?_
  refine lv_aload_n hx hb dX8_takeOver_81 rfl (lv_at hl 0 rfl) ?_
  refine va_get (D := D) (ci := 12) (v := .ref (q2 7)) (C := RX8) (T := TX8) (N := 10) hx hb hts (fun w9 h9 => fz_m (fin_X8 w9 h9)) hown hK hP 39 rfl rfl 7 (by decide) (hts _ (fz_m fm_46)) (fun _ h9 => h9) rfl dX8_takeOver_82 ?_
  refine lv_iconst (v := 0) hx hb dX8_takeOver_85 (by decide) ?_
  refine lv_bipush (v := 40) hx hb dX8_takeOver_86 (by decide) ?_
  refine va_copyi hx hb (hml.trans hl.1.symm) hown (hts _ (fz_m fm_253)) (hts _ (fz_m fm_254)) (hts _ (fz_m fm_255)) (hts _ (fz_m fm_256)) hK hP hD hS 7 45 0 0 rfl rfl rfl rfl rfl (by decide) (by decide) (by decide) (by decide) (by decide) (fun _ _ => rfl) (Nat.le_of_ble_eq_true rfl) (Nat.le_of_ble_eq_true rfl) dX8_takeOver_88 (fun H locs hP hD hS => ?_)
  have hP : va_P D vwCl (fz_W2 k q f pa v q2 (va_up (va_up (va_up (va_up (va_up f2 2 (va_cpy (f 2) (f2 2) (0 : Int32).toNatClampNeg (0 : Int32).toNatClampNeg (40 : Int32).toNatClampNeg)) 4 (va_cpy (f 4) (f2 4) (0 : Int32).toNatClampNeg (0 : Int32).toNatClampNeg (40 : Int32).toNatClampNeg)) 5 (va_cpy (f 5) (f2 5) (0 : Int32).toNatClampNeg (0 : Int32).toNatClampNeg (40 : Int32).toNatClampNeg)) 6 (va_cpy (f 6) (f2 6) (0 : Int32).toNatClampNeg (0 : Int32).toNatClampNeg (40 : Int32).toNatClampNeg)) 7 (va_cpy (f 7) (f2 7) (0 : Int32).toNatClampNeg (0 : Int32).toNatClampNeg (40 : Int32).toNatClampNeg)) (va_up (va_up v2 1 1) 2 1)) H := hP
  have hD : va_D A (fz_W2 k q f pa v q2 (va_up (va_up (va_up (va_up (va_up f2 2 (va_cpy (f 2) (f2 2) (0 : Int32).toNatClampNeg (0 : Int32).toNatClampNeg (40 : Int32).toNatClampNeg)) 4 (va_cpy (f 4) (f2 4) (0 : Int32).toNatClampNeg (0 : Int32).toNatClampNeg (40 : Int32).toNatClampNeg)) 5 (va_cpy (f 5) (f2 5) (0 : Int32).toNatClampNeg (0 : Int32).toNatClampNeg (40 : Int32).toNatClampNeg)) 6 (va_cpy (f 6) (f2 6) (0 : Int32).toNatClampNeg (0 : Int32).toNatClampNeg (40 : Int32).toNatClampNeg)) 7 (va_cpy (f 7) (f2 7) (0 : Int32).toNatClampNeg (0 : Int32).toNatClampNeg (40 : Int32).toNatClampNeg)) (va_up (va_up v2 1 1) 2 1)) := hD
  refine lv_aload_n hx hb dX8_takeOver_91 rfl (lv_at hl 1 rfl) ?_
  refine va_get (D := D) (ci := 12) (v := .ref (q 8)) (C := RX8) (T := TX8) (N := 10) hx hb hts (fun w9 h9 => fz_m (fin_X8 w9 h9)) hown hK hP 1 rfl rfl 8 (by decide) (hts _ (fz_m fm_262)) (fun _ h9 => h9) rfl dX8_takeOver_92 ?_
  refine lv_iconst (v := 0) hx hb dX8_takeOver_95 (by decide) ?_
  refine lv_aload_n hx hb dX8_takeOver_96 rfl (lv_at hl 0 rfl) ?_
  refine va_get (D := D) (ci := 12) (v := .ref (q2 8)) (C := RX8) (T := TX8) (N := 10) hx hb hts (fun w9 h9 => fz_m (fin_X8 w9 h9)) hown hK hP 39 rfl rfl 8 (by decide) (hts _ (fz_m fm_262)) (fun _ h9 => h9) rfl dX8_takeOver_97 ?_
  refine lv_iconst (v := 0) hx hb dX8_takeOver_100 (by decide) ?_
  refine lv_bipush (v := 40) hx hb dX8_takeOver_101 (by decide) ?_
  refine va_copyi hx hb (hml.trans hl.1.symm) hown (hts _ (fz_m fm_253)) (hts _ (fz_m fm_254)) (hts _ (fz_m fm_255)) (hts _ (fz_m fm_256)) hK hP hD hS 8 46 0 0 rfl rfl rfl rfl rfl (by decide) (by decide) (by decide) (by decide) (by decide) (fun _ _ => rfl) (Nat.le_of_ble_eq_true rfl) (Nat.le_of_ble_eq_true rfl) dX8_takeOver_103 (fun H locs hP hD hS => ?_)
  have hP : va_P D vwCl (fz_W2 k q f pa v q2 (va_up (va_up (va_up (va_up (va_up (va_up f2 2 (va_cpy (f 2) (f2 2) (0 : Int32).toNatClampNeg (0 : Int32).toNatClampNeg (40 : Int32).toNatClampNeg)) 4 (va_cpy (f 4) (f2 4) (0 : Int32).toNatClampNeg (0 : Int32).toNatClampNeg (40 : Int32).toNatClampNeg)) 5 (va_cpy (f 5) (f2 5) (0 : Int32).toNatClampNeg (0 : Int32).toNatClampNeg (40 : Int32).toNatClampNeg)) 6 (va_cpy (f 6) (f2 6) (0 : Int32).toNatClampNeg (0 : Int32).toNatClampNeg (40 : Int32).toNatClampNeg)) 7 (va_cpy (f 7) (f2 7) (0 : Int32).toNatClampNeg (0 : Int32).toNatClampNeg (40 : Int32).toNatClampNeg)) 8 (va_cpy (f 8) (f2 8) (0 : Int32).toNatClampNeg (0 : Int32).toNatClampNeg (40 : Int32).toNatClampNeg)) (va_up (va_up v2 1 1) 2 1)) H := hP
  have hD : va_D A (fz_W2 k q f pa v q2 (va_up (va_up (va_up (va_up (va_up (va_up f2 2 (va_cpy (f 2) (f2 2) (0 : Int32).toNatClampNeg (0 : Int32).toNatClampNeg (40 : Int32).toNatClampNeg)) 4 (va_cpy (f 4) (f2 4) (0 : Int32).toNatClampNeg (0 : Int32).toNatClampNeg (40 : Int32).toNatClampNeg)) 5 (va_cpy (f 5) (f2 5) (0 : Int32).toNatClampNeg (0 : Int32).toNatClampNeg (40 : Int32).toNatClampNeg)) 6 (va_cpy (f 6) (f2 6) (0 : Int32).toNatClampNeg (0 : Int32).toNatClampNeg (40 : Int32).toNatClampNeg)) 7 (va_cpy (f 7) (f2 7) (0 : Int32).toNatClampNeg (0 : Int32).toNatClampNeg (40 : Int32).toNatClampNeg)) 8 (va_cpy (f 8) (f2 8) (0 : Int32).toNatClampNeg (0 : Int32).toNatClampNeg (40 : Int32).toNatClampNeg)) (va_up (va_up v2 1 1) 2 1)) := hD
  refine lv_aload_n hx hb dX8_takeOver_106 rfl (lv_at hl 1 rfl) ?_
  refine va_get (D := D) (ci := 12) (v := .ref (q 9)) (C := RX8) (T := TX8) (N := 10) hx hb hts (fun w9 h9 => fz_m (fin_X8 w9 h9)) hown hK hP 1 rfl rfl 9 (by decide) (hts _ (fz_m fm_40)) (fun _ h9 => h9) rfl dX8_takeOver_107 ?_
  refine lv_iconst (v := 0) hx hb dX8_takeOver_110 (by decide) ?_
  refine lv_aload_n hx hb dX8_takeOver_111 rfl (lv_at hl 0 rfl) ?_
  refine va_get (D := D) (ci := 12) (v := .ref (q2 9)) (C := RX8) (T := TX8) (N := 10) hx hb hts (fun w9 h9 => fz_m (fin_X8 w9 h9)) hown hK hP 39 rfl rfl 9 (by decide) (hts _ (fz_m fm_40)) (fun _ h9 => h9) rfl dX8_takeOver_112 ?_
  refine lv_iconst (v := 0) hx hb dX8_takeOver_115 (by decide) ?_
  refine lv_bipush (v := 40) hx hb dX8_takeOver_116 (by decide) ?_
  refine va_copyi hx hb (hml.trans hl.1.symm) hown (hts _ (fz_m fm_253)) (hts _ (fz_m fm_254)) (hts _ (fz_m fm_255)) (hts _ (fz_m fm_256)) hK hP hD hS 9 47 0 0 rfl rfl rfl rfl rfl (by decide) (by decide) (by decide) (by decide) (by decide) (fun _ _ => rfl) (Nat.le_of_ble_eq_true rfl) (Nat.le_of_ble_eq_true rfl) dX8_takeOver_118 (fun H locs hP hD hS => ?_)
  have hP : va_P D vwCl (fz_W2 k q f pa v q2 (va_up (va_up (va_up (va_up (va_up (va_up (va_up f2 2 (va_cpy (f 2) (f2 2) (0 : Int32).toNatClampNeg (0 : Int32).toNatClampNeg (40 : Int32).toNatClampNeg)) 4 (va_cpy (f 4) (f2 4) (0 : Int32).toNatClampNeg (0 : Int32).toNatClampNeg (40 : Int32).toNatClampNeg)) 5 (va_cpy (f 5) (f2 5) (0 : Int32).toNatClampNeg (0 : Int32).toNatClampNeg (40 : Int32).toNatClampNeg)) 6 (va_cpy (f 6) (f2 6) (0 : Int32).toNatClampNeg (0 : Int32).toNatClampNeg (40 : Int32).toNatClampNeg)) 7 (va_cpy (f 7) (f2 7) (0 : Int32).toNatClampNeg (0 : Int32).toNatClampNeg (40 : Int32).toNatClampNeg)) 8 (va_cpy (f 8) (f2 8) (0 : Int32).toNatClampNeg (0 : Int32).toNatClampNeg (40 : Int32).toNatClampNeg)) 9 (va_cpy (f 9) (f2 9) (0 : Int32).toNatClampNeg (0 : Int32).toNatClampNeg (40 : Int32).toNatClampNeg)) (va_up (va_up v2 1 1) 2 1)) H := hP
  have hD : va_D A (fz_W2 k q f pa v q2 (va_up (va_up (va_up (va_up (va_up (va_up (va_up f2 2 (va_cpy (f 2) (f2 2) (0 : Int32).toNatClampNeg (0 : Int32).toNatClampNeg (40 : Int32).toNatClampNeg)) 4 (va_cpy (f 4) (f2 4) (0 : Int32).toNatClampNeg (0 : Int32).toNatClampNeg (40 : Int32).toNatClampNeg)) 5 (va_cpy (f 5) (f2 5) (0 : Int32).toNatClampNeg (0 : Int32).toNatClampNeg (40 : Int32).toNatClampNeg)) 6 (va_cpy (f 6) (f2 6) (0 : Int32).toNatClampNeg (0 : Int32).toNatClampNeg (40 : Int32).toNatClampNeg)) 7 (va_cpy (f 7) (f2 7) (0 : Int32).toNatClampNeg (0 : Int32).toNatClampNeg (40 : Int32).toNatClampNeg)) 8 (va_cpy (f 8) (f2 8) (0 : Int32).toNatClampNeg (0 : Int32).toNatClampNeg (40 : Int32).toNatClampNeg)) 9 (va_cpy (f 9) (f2 9) (0 : Int32).toNatClampNeg (0 : Int32).toNatClampNeg (40 : Int32).toNatClampNeg)) (va_up (va_up v2 1 1) 2 1)) := hD
  exact fz_vret hx hb hr hlocks hS dX8_takeOver_121 ((va_up (va_up (va_up (va_up (va_up (va_up (va_up f2 2 (va_cpy (f 2) (f2 2) (0 : Int32).toNatClampNeg (0 : Int32).toNatClampNeg (40 : Int32).toNatClampNeg)) 4 (va_cpy (f 4) (f2 4) (0 : Int32).toNatClampNeg (0 : Int32).toNatClampNeg (40 : Int32).toNatClampNeg)) 5 (va_cpy (f 5) (f2 5) (0 : Int32).toNatClampNeg (0 : Int32).toNatClampNeg (40 : Int32).toNatClampNeg)) 6 (va_cpy (f 6) (f2 6) (0 : Int32).toNatClampNeg (0 : Int32).toNatClampNeg (40 : Int32).toNatClampNeg)) 7 (va_cpy (f 7) (f2 7) (0 : Int32).toNatClampNeg (0 : Int32).toNatClampNeg (40 : Int32).toNatClampNeg)) 8 (va_cpy (f 8) (f2 8) (0 : Int32).toNatClampNeg (0 : Int32).toNatClampNeg (40 : Int32).toNatClampNeg)) 9 (va_cpy (f 9) (f2 9) (0 : Int32).toNatClampNeg (0 : Int32).toNatClampNeg (40 : Int32).toNatClampNeg)), (va_up (va_up v2 1 1) 2 1)) trivial hP (Nat.le_of_ble_eq_true rfl) (Nat.le_of_ble_eq_true rfl)

set_option maxHeartbeats 4000000 in
set_option maxRecDepth 100000 in
theorem c_toRules (l : Launch) (A : Nat → Prop) (D : va_G) (k : Nat → ClassId) (q : Nat → Nat) (f : Nat → Nat → Int32) (pa : Nat → Option Nat) (v : Nat → Int32) (q2 : Nat → Nat) (f2 : Nat → Nat → Int32) (v2 : Nat → Int32)   :
    Met l yX6_takeOver (fz_ws yX6_takeOver cX6_takeOver 2 none) { frames := 12, cells := 0, slots := 0, locals := 160 } (va_Pc [.ref (q2 10), .ref (q 10)] (fz_PC A D (fz_tys k) (fz_W2 k q f pa v q2 f2 v2))) (fz_QV D A (fun (u : (Nat → Nat → Int32) × (Nat → Int32)) => fz_W2 k q f pa v q2 u.1 u.2) (fun (_ : (Nat → Nat → Int32) × (Nat → Int32)) => True)) 0 0 A := by
  refine fz_of (by decide +kernel) (Nat.le_of_ble_eq_true rfl) ?_
  intro p e s m below meth c hx hb hr hml hown hlocks hts hin hA hP hK hD hG hS ls hl
  have hown : s.vm.findClass RX6 = some m.cls := hown
  have S0 : CallFix p m c cX6_takeOver 2 s [.ref (q2 10), .ref (q 10)].toArray (fz_ws yX6_takeOver cX6_takeOver 2 none) RX6 := ⟨hx, hb, hml, hown, hts⟩
  have hl : lv_has ls 2 [(0, .ref (q2 10)), (1, .ref (q 10))] := hl
  refine lv_aload_n hx hb dX6_takeOver_0 rfl (lv_at hl 1 rfl) ?_
  refine va_get (D := D) (ci := 10) (v := .ref (q 11)) (C := RX6) (T := TX6) (N := 3) hx hb hts (fun w9 h9 => fz_m (fin_X6 w9 h9)) hown hK hP 10 rfl rfl 0 (by decide) (hts _ (fz_m fm_48)) (fun _ h9 => h9) rfl dX6_takeOver_1 ?_
  refine lv_iconst (v := 0) hx hb dX6_takeOver_4 (by decide) ?_
  refine lv_aload_n hx hb dX6_takeOver_5 rfl (lv_at hl 0 rfl) ?_
  refine va_get (D := D) (ci := 10) (v := .ref (q2 11)) (C := RX6) (T := TX6) (N := 3) hx hb hts (fun w9 h9 => fz_m (fin_X6 w9 h9)) hown hK hP 48 rfl rfl 0 (by decide) (hts _ (fz_m fm_48)) (fun _ h9 => h9) rfl dX6_takeOver_6 ?_
  refine lv_iconst (v := 0) hx hb dX6_takeOver_9 (by decide) ?_
  refine lv_bipush (v := 40) hx hb dX6_takeOver_10 (by decide) ?_
  refine va_copyi hx hb (hml.trans hl.1.symm) hown (hts _ (fz_m fm_400)) (hts _ (fz_m fm_254)) (hts _ (fz_m fm_255)) (hts _ (fz_m fm_256)) hK hP hD hS 11 49 0 0 rfl rfl rfl rfl rfl (by decide) (by decide) (by decide) (by decide) (by decide) (fun _ _ => rfl) (Nat.le_of_ble_eq_true rfl) (Nat.le_of_ble_eq_true rfl) dX6_takeOver_12 (fun H locs hP hD hS => ?_)
  have hP : va_P D vwCl (fz_W2 k q f pa v q2 (va_up f2 11 (va_cpy (f 11) (f2 11) (0 : Int32).toNatClampNeg (0 : Int32).toNatClampNeg (40 : Int32).toNatClampNeg)) v2) H := hP
  have hD : va_D A (fz_W2 k q f pa v q2 (va_up f2 11 (va_cpy (f 11) (f2 11) (0 : Int32).toNatClampNeg (0 : Int32).toNatClampNeg (40 : Int32).toNatClampNeg)) v2) := hD
  refine lv_aload_n hx hb dX6_takeOver_15 rfl (lv_at hl 1 rfl) ?_
  refine va_get (D := D) (ci := 10) (v := .ref (q 12)) (C := RX6) (T := TX6) (N := 3) hx hb hts (fun w9 h9 => fz_m (fin_X6 w9 h9)) hown hK hP 10 rfl rfl 1 (by decide) (hts _ (fz_m fm_304)) (fun _ h9 => h9) rfl dX6_takeOver_16 ?_
  refine lv_iconst (v := 0) hx hb dX6_takeOver_19 (by decide) ?_
  refine lv_aload_n hx hb dX6_takeOver_20 rfl (lv_at hl 0 rfl) ?_
  refine va_get (D := D) (ci := 10) (v := .ref (q2 12)) (C := RX6) (T := TX6) (N := 3) hx hb hts (fun w9 h9 => fz_m (fin_X6 w9 h9)) hown hK hP 48 rfl rfl 1 (by decide) (hts _ (fz_m fm_304)) (fun _ h9 => h9) rfl dX6_takeOver_21 ?_
  refine lv_iconst (v := 0) hx hb dX6_takeOver_24 (by decide) ?_
  refine lv_bipush (v := 40) hx hb dX6_takeOver_25 (by decide) ?_
  refine va_copyi hx hb (hml.trans hl.1.symm) hown (hts _ (fz_m fm_400)) (hts _ (fz_m fm_254)) (hts _ (fz_m fm_255)) (hts _ (fz_m fm_256)) hK hP hD hS 12 50 0 0 rfl rfl rfl rfl rfl (by decide) (by decide) (by decide) (by decide) (by decide) (fun _ _ => rfl) (Nat.le_of_ble_eq_true rfl) (Nat.le_of_ble_eq_true rfl) dX6_takeOver_27 (fun H locs hP hD hS => ?_)
  have hP : va_P D vwCl (fz_W2 k q f pa v q2 (va_up (va_up f2 11 (va_cpy (f 11) (f2 11) (0 : Int32).toNatClampNeg (0 : Int32).toNatClampNeg (40 : Int32).toNatClampNeg)) 12 (va_cpy (f 12) (f2 12) (0 : Int32).toNatClampNeg (0 : Int32).toNatClampNeg (40 : Int32).toNatClampNeg)) v2) H := hP
  have hD : va_D A (fz_W2 k q f pa v q2 (va_up (va_up f2 11 (va_cpy (f 11) (f2 11) (0 : Int32).toNatClampNeg (0 : Int32).toNatClampNeg (40 : Int32).toNatClampNeg)) 12 (va_cpy (f 12) (f2 12) (0 : Int32).toNatClampNeg (0 : Int32).toNatClampNeg (40 : Int32).toNatClampNeg)) v2) := hD
  refine lv_aload_n hx hb dX6_takeOver_30 rfl (lv_at hl 1 rfl) ?_
  refine va_get (D := D) (ci := 10) (v := .ref (q 13)) (C := RX6) (T := TX6) (N := 3) hx hb hts (fun w9 h9 => fz_m (fin_X6 w9 h9)) hown hK hP 10 rfl rfl 2 (by decide) (hts _ (fz_m fm_305)) (fun _ h9 => h9) rfl dX6_takeOver_31 ?_
  refine lv_iconst (v := 0) hx hb dX6_takeOver_34 (by decide) ?_
  refine lv_aload_n hx hb dX6_takeOver_35 rfl (lv_at hl 0 rfl) ?_
  refine va_get (D := D) (ci := 10) (v := .ref (q2 13)) (C := RX6) (T := TX6) (N := 3) hx hb hts (fun w9 h9 => fz_m (fin_X6 w9 h9)) hown hK hP 48 rfl rfl 2 (by decide) (hts _ (fz_m fm_305)) (fun _ h9 => h9) rfl dX6_takeOver_36 ?_
  refine lv_iconst (v := 0) hx hb dX6_takeOver_39 (by decide) ?_
  refine lv_sipush (v := 800) hx hb dX6_takeOver_40 (by decide) ?_
  refine va_copyi hx hb (hml.trans hl.1.symm) hown (hts _ (fz_m fm_400)) (hts _ (fz_m fm_254)) (hts _ (fz_m fm_255)) (hts _ (fz_m fm_256)) hK hP hD hS 13 51 0 0 rfl rfl rfl rfl rfl (by decide) (by decide) (by decide) (by decide) (by decide) (fun _ _ => rfl) (Nat.le_of_ble_eq_true rfl) (Nat.le_of_ble_eq_true rfl) dX6_takeOver_43 (fun H locs hP hD hS => ?_)
  have hP : va_P D vwCl (fz_W2 k q f pa v q2 (va_up (va_up (va_up f2 11 (va_cpy (f 11) (f2 11) (0 : Int32).toNatClampNeg (0 : Int32).toNatClampNeg (40 : Int32).toNatClampNeg)) 12 (va_cpy (f 12) (f2 12) (0 : Int32).toNatClampNeg (0 : Int32).toNatClampNeg (40 : Int32).toNatClampNeg)) 13 (va_cpy (f 13) (f2 13) (0 : Int32).toNatClampNeg (0 : Int32).toNatClampNeg (800 : Int32).toNatClampNeg)) v2) H := hP
  have hD : va_D A (fz_W2 k q f pa v q2 (va_up (va_up (va_up f2 11 (va_cpy (f 11) (f2 11) (0 : Int32).toNatClampNeg (0 : Int32).toNatClampNeg (40 : Int32).toNatClampNeg)) 12 (va_cpy (f 12) (f2 12) (0 : Int32).toNatClampNeg (0 : Int32).toNatClampNeg (40 : Int32).toNatClampNeg)) 13 (va_cpy (f 13) (f2 13) (0 : Int32).toNatClampNeg (0 : Int32).toNatClampNeg (800 : Int32).toNatClampNeg)) v2) := hD
  exact fz_vret hx hb hr hlocks hS dX6_takeOver_46 ((va_up (va_up (va_up f2 11 (va_cpy (f 11) (f2 11) (0 : Int32).toNatClampNeg (0 : Int32).toNatClampNeg (40 : Int32).toNatClampNeg)) 12 (va_cpy (f 12) (f2 12) (0 : Int32).toNatClampNeg (0 : Int32).toNatClampNeg (40 : Int32).toNatClampNeg)) 13 (va_cpy (f 13) (f2 13) (0 : Int32).toNatClampNeg (0 : Int32).toNatClampNeg (800 : Int32).toNatClampNeg)), v2) trivial hP (Nat.le_of_ble_eq_true rfl) (Nat.le_of_ble_eq_true rfl)

set_option maxHeartbeats 4000000 in
set_option maxRecDepth 100000 in
theorem c_toMarks (l : Launch) (A : Nat → Prop) (D : va_G) (k : Nat → ClassId) (q : Nat → Nat) (f : Nat → Nat → Int32) (pa : Nat → Option Nat) (v : Nat → Int32) (q2 : Nat → Nat) (f2 : Nat → Nat → Int32) (v2 : Nat → Int32) (g_v_6 : v 6 = 0)  :
    Met l yX3_takeOver (fz_ws yX3_takeOver cX3_takeOver 2 none) { frames := 12, cells := 0, slots := 0, locals := 160 } (va_Pc [.ref (q2 20), .ref (q 20)] (fz_PC A D (fz_tys k) (fz_W2 k q f pa v q2 f2 v2))) (fz_QV D A (fun (u : (Nat → Nat → Int32) × (Nat → Int32)) => fz_W2 k q f pa v q2 u.1 u.2) (fun (_ : (Nat → Nat → Int32) × (Nat → Int32)) => True)) 0 0 A := by
  refine fz_of (by decide +kernel) (Nat.le_of_ble_eq_true rfl) ?_
  intro p e s m below meth c hx hb hr hml hown hlocks hts hin hA hP hK hD hG hS ls hl
  have hown : s.vm.findClass RX3 = some m.cls := hown
  have S0 : CallFix p m c cX3_takeOver 2 s [.ref (q2 20), .ref (q 20)].toArray (fz_ws yX3_takeOver cX3_takeOver 2 none) RX3 := ⟨hx, hb, hml, hown, hts⟩
  have hl : lv_has ls 2 [(0, .ref (q2 20)), (1, .ref (q 20))] := hl
  refine lv_aload_n hx hb dX3_takeOver_0 rfl (lv_at hl 0 rfl) ?_
  refine va_get (D := D) (ci := 7) (v := .ref (q2 22)) (C := RX3) (T := TX3) (N := 3) hx hb hts (fun w9 h9 => fz_m (fin_X3 w9 h9)) hown hK hP 58 rfl rfl 2 (by decide) (hts _ (fz_m fm_309)) (fun _ h9 => h9) rfl dX3_takeOver_1 ?_
  refine va_alen (v := 64) hx hb hK hP 60 0 rfl rfl rfl dX3_takeOver_4 ?_
  refine lv_aload_n hx hb dX3_takeOver_5 rfl (lv_at hl 1 rfl) ?_
  refine va_get (D := D) (ci := 7) (v := .int (v 6)) (C := RX3) (T := TX3) (N := 3) hx hb hts (fun w9 h9 => fz_m (fin_X3 w9 h9)) hown hK hP 20 rfl rfl 0 (by decide) (hts _ (fz_m fm_68)) (fun _ h9 => h9) rfl dX3_takeOver_6 ?_
  refine fz_I (y := 0) g_v_6 ?_
  refine lv_icmp_ge (tgt := 34) hx hb dX3_takeOver_9 (by decide) (fun c_1 => ?_) (fun c_1 => absurd (by decide) c_1)
  refine lv_aload_n hx hb dX3_takeOver_34 rfl (lv_at hl 0 rfl) ?_
  refine lv_aload_n hx hb dX3_takeOver_35 rfl (lv_at hl 1 rfl) ?_
  refine va_get (D := D) (ci := 7) (v := .int (v 6)) (C := RX3) (T := TX3) (N := 3) hx hb hts (fun w9 h9 => fz_m (fin_X3 w9 h9)) hown hK hP 20 rfl rfl 0 (by decide) (hts _ (fz_m fm_68)) (fun _ h9 => h9) rfl dX3_takeOver_36 ?_
  refine fz_I (y := 0) g_v_6 ?_
  refine va_put (D := D) (ci := 7) (v := .int 0) (ty := .int) (C := RX3) (T := TX3) (N := 3) hx hb hts (fun w9 h9 => fz_m (fin_X3 w9 h9)) tyX3 tyX3_ok nmX3 hown hK hP hD hS 58 rfl rfl 0 (by decide) (hts _ (fz_m fm_68)) (fun _ h9 => h9) rfl (by decide +kernel) rfl rfl (Nat.le_of_ble_eq_true rfl) dX3_takeOver_39 (fun H locs hP hD hS => ?_)
  have hP : va_P D vwCl (fz_W2 k q f pa v q2 f2 (va_up v2 6 0)) H := hP
  have hD : va_D A (fz_W2 k q f pa v q2 f2 (va_up v2 6 0)) := hD
  refine lv_aload_n hx hb dX3_takeOver_42 rfl (lv_at hl 1 rfl) ?_
  refine va_get (D := D) (ci := 7) (v := .ref (q 21)) (C := RX3) (T := TX3) (N := 3) hx hb hts (fun w9 h9 => fz_m (fin_X3 w9 h9)) hown hK hP 20 rfl rfl 1 (by decide) (hts _ (fz_m fm_308)) (fun _ h9 => h9) rfl dX3_takeOver_43 ?_
  refine lv_iconst (v := 0) hx hb dX3_takeOver_46 (by decide) ?_
  refine lv_aload_n hx hb dX3_takeOver_47 rfl (lv_at hl 0 rfl) ?_
  refine va_get (D := D) (ci := 7) (v := .ref (q2 21)) (C := RX3) (T := TX3) (N := 3) hx hb hts (fun w9 h9 => fz_m (fin_X3 w9 h9)) hown hK hP 58 rfl rfl 1 (by decide) (hts _ (fz_m fm_308)) (fun _ h9 => h9) rfl dX3_takeOver_48 ?_
  refine lv_iconst (v := 0) hx hb dX3_takeOver_51 (by decide) ?_
  refine lv_aload_n hx hb dX3_takeOver_52 rfl (lv_at hl 0 rfl) ?_
  refine va_get (D := D) (ci := 7) (v := .int ((va_up v2 6 0) 6)) (C := RX3) (T := TX3) (N := 3) hx hb hts (fun w9 h9 => fz_m (fin_X3 w9 h9)) hown hK hP 58 rfl rfl 0 (by decide) (hts _ (fz_m fm_68)) (fun _ h9 => h9) rfl dX3_takeOver_53 ?_
  refine fz_I (y := 0) rfl ?_
  refine va_copyi hx hb (hml.trans hl.1.symm) hown (hts _ (fz_m fm_401)) (hts _ (fz_m fm_254)) (hts _ (fz_m fm_255)) (hts _ (fz_m fm_256)) hK hP hD hS 21 59 0 0 rfl rfl rfl rfl rfl (by decide) (by decide) (by decide) (by decide) (by decide) (fun _ _ => rfl) (Nat.le_of_ble_eq_true rfl) (Nat.le_of_ble_eq_true rfl) dX3_takeOver_56 (fun H locs hP hD hS => ?_)
  have hP : va_P D vwCl (fz_W2 k q f pa v q2 (va_up f2 21 (va_cpy (f 21) (f2 21) (0 : Int32).toNatClampNeg (0 : Int32).toNatClampNeg (0 : Int32).toNatClampNeg)) (va_up v2 6 0)) H := hP
  have hD : va_D A (fz_W2 k q f pa v q2 (va_up f2 21 (va_cpy (f 21) (f2 21) (0 : Int32).toNatClampNeg (0 : Int32).toNatClampNeg (0 : Int32).toNatClampNeg)) (va_up v2 6 0)) := hD
  refine lv_aload_n hx hb dX3_takeOver_59 rfl (lv_at hl 1 rfl) ?_
  refine va_get (D := D) (ci := 7) (v := .ref (q 22)) (C := RX3) (T := TX3) (N := 3) hx hb hts (fun w9 h9 => fz_m (fin_X3 w9 h9)) hown hK hP 20 rfl rfl 2 (by decide) (hts _ (fz_m fm_309)) (fun _ h9 => h9) rfl dX3_takeOver_60 ?_
  refine lv_iconst (v := 0) hx hb dX3_takeOver_63 (by decide) ?_
  refine lv_aload_n hx hb dX3_takeOver_64 rfl (lv_at hl 0 rfl) ?_
  refine va_get (D := D) (ci := 7) (v := .ref (q2 22)) (C := RX3) (T := TX3) (N := 3) hx hb hts (fun w9 h9 => fz_m (fin_X3 w9 h9)) hown hK hP 58 rfl rfl 2 (by decide) (hts _ (fz_m fm_309)) (fun _ h9 => h9) rfl dX3_takeOver_65 ?_
  refine lv_iconst (v := 0) hx hb dX3_takeOver_68 (by decide) ?_
  refine lv_aload_n hx hb dX3_takeOver_69 rfl (lv_at hl 0 rfl) ?_
  refine va_get (D := D) (ci := 7) (v := .int ((va_up v2 6 0) 6)) (C := RX3) (T := TX3) (N := 3) hx hb hts (fun w9 h9 => fz_m (fin_X3 w9 h9)) hown hK hP 58 rfl rfl 0 (by decide) (hts _ (fz_m fm_68)) (fun _ h9 => h9) rfl dX3_takeOver_70 ?_
  refine fz_I (y := 0) rfl ?_
  refine va_copyi hx hb (hml.trans hl.1.symm) hown (hts _ (fz_m fm_401)) (hts _ (fz_m fm_254)) (hts _ (fz_m fm_255)) (hts _ (fz_m fm_256)) hK hP hD hS 22 60 0 0 rfl rfl rfl rfl rfl (by decide) (by decide) (by decide) (by decide) (by decide) (fun _ _ => rfl) (Nat.le_of_ble_eq_true rfl) (Nat.le_of_ble_eq_true rfl) dX3_takeOver_73 (fun H locs hP hD hS => ?_)
  have hP : va_P D vwCl (fz_W2 k q f pa v q2 (va_up (va_up f2 21 (va_cpy (f 21) (f2 21) (0 : Int32).toNatClampNeg (0 : Int32).toNatClampNeg (0 : Int32).toNatClampNeg)) 22 (va_cpy (f 22) (f2 22) (0 : Int32).toNatClampNeg (0 : Int32).toNatClampNeg (0 : Int32).toNatClampNeg)) (va_up v2 6 0)) H := hP
  have hD : va_D A (fz_W2 k q f pa v q2 (va_up (va_up f2 21 (va_cpy (f 21) (f2 21) (0 : Int32).toNatClampNeg (0 : Int32).toNatClampNeg (0 : Int32).toNatClampNeg)) 22 (va_cpy (f 22) (f2 22) (0 : Int32).toNatClampNeg (0 : Int32).toNatClampNeg (0 : Int32).toNatClampNeg)) (va_up v2 6 0)) := hD
  exact fz_vret hx hb hr hlocks hS dX3_takeOver_76 ((va_up (va_up f2 21 (va_cpy (f 21) (f2 21) (0 : Int32).toNatClampNeg (0 : Int32).toNatClampNeg (0 : Int32).toNatClampNeg)) 22 (va_cpy (f 22) (f2 22) (0 : Int32).toNatClampNeg (0 : Int32).toNatClampNeg (0 : Int32).toNatClampNeg)), (va_up v2 6 0)) trivial hP (Nat.le_of_ble_eq_true rfl) (Nat.le_of_ble_eq_true rfl)

set_option maxHeartbeats 4000000 in
set_option maxRecDepth 100000 in
theorem c_toCont (l : Launch) (A : Nat → Prop) (D : va_G) (k : Nat → ClassId) (q : Nat → Nat) (f : Nat → Nat → Int32) (pa : Nat → Option Nat) (v : Nat → Int32) (q2 : Nat → Nat) (f2 : Nat → Nat → Int32) (v2 : Nat → Int32) (g_v_3 : v 3 = 0) (g_v_4 : v 4 = 0) (g_v_5 : v 5 = 0) (g_v_6 : v 6 = 0)  :
    Met l yX0_takeOver (fz_ws yX0_takeOver cX0_takeOver 2 none) { frames := 24, cells := 0, slots := 0, locals := 320 } (va_Pc [.ref (q2 14), .ref (q 14)] (fz_PC A D (fz_tys k) (fz_W2 k q f pa v q2 f2 v2))) (fz_QV D A (fun (u : (Nat → Nat → Int32) × (Nat → Int32)) => fz_W2 k q f pa v q2 u.1 u.2) (fun (_ : (Nat → Nat → Int32) × (Nat → Int32)) => True)) 0 0 A := by
  refine fz_of (by decide +kernel) (Nat.le_of_ble_eq_true rfl) ?_
  intro p e s m below meth c hx hb hr hml hown hlocks hts hin hA hP hK hD hG hS ls hl
  have hown : s.vm.findClass RX0 = some m.cls := hown
  have S0 : CallFix p m c cX0_takeOver 2 s [.ref (q2 14), .ref (q 14)].toArray (fz_ws yX0_takeOver cX0_takeOver 2 none) RX0 := ⟨hx, hb, hml, hown, hts⟩
  have hl : lv_has ls 2 [(0, .ref (q2 14)), (1, .ref (q 14))] := hl
  refine lv_aload_n hx hb dX0_takeOver_0 rfl (lv_at hl 0 rfl) ?_
  refine lv_aload_n hx hb dX0_takeOver_1 rfl (lv_at hl 1 rfl) ?_
  refine va_get (D := D) (ci := 4) (v := .int (v 3)) (C := RX0) (T := TX0) (N := 9) hx hb hts (fun w9 h9 => fz_m (fin_X0 w9 h9)) hown hK hP 14 rfl rfl 0 (by decide) (hts _ (fz_m fm_7)) (fun _ h9 => h9) rfl dX0_takeOver_2 ?_
  refine fz_I (y := 0) g_v_3 ?_
  refine va_put (D := D) (ci := 4) (v := .int 0) (ty := .int) (C := RX0) (T := TX0) (N := 9) hx hb hts (fun w9 h9 => fz_m (fin_X0 w9 h9)) tyX0 tyX0_ok nmX0 hown hK hP hD hS 52 rfl rfl 0 (by decide) (hts _ (fz_m fm_7)) (fun _ h9 => h9) rfl (by decide +kernel) rfl rfl (Nat.le_of_ble_eq_true rfl) dX0_takeOver_5 (fun H locs hP hD hS => ?_)
  have hP : va_P D vwCl (fz_W2 k q f pa v q2 f2 (va_up v2 3 0)) H := hP
  have hD : va_D A (fz_W2 k q f pa v q2 f2 (va_up v2 3 0)) := hD
  refine lv_aload_n hx hb dX0_takeOver_8 rfl (lv_at hl 0 rfl) ?_
  refine lv_aload_n hx hb dX0_takeOver_9 rfl (lv_at hl 1 rfl) ?_
  refine va_get (D := D) (ci := 4) (v := .int (v 4)) (C := RX0) (T := TX0) (N := 9) hx hb hts (fun w9 h9 => fz_m (fin_X0 w9 h9)) hown hK hP 14 rfl rfl 1 (by decide) (hts _ (fz_m fm_67)) (fun _ h9 => h9) rfl dX0_takeOver_10 ?_
  refine fz_I (y := 0) g_v_4 ?_
  refine va_put (D := D) (ci := 4) (v := .int 0) (ty := .int) (C := RX0) (T := TX0) (N := 9) hx hb hts (fun w9 h9 => fz_m (fin_X0 w9 h9)) tyX0 tyX0_ok nmX0 hown hK hP hD hS 52 rfl rfl 1 (by decide) (hts _ (fz_m fm_67)) (fun _ h9 => h9) rfl (by decide +kernel) rfl rfl (Nat.le_of_ble_eq_true rfl) dX0_takeOver_13 (fun H locs hP hD hS => ?_)
  have hP : va_P D vwCl (fz_W2 k q f pa v q2 f2 (va_up (va_up v2 3 0) 4 0)) H := hP
  have hD : va_D A (fz_W2 k q f pa v q2 f2 (va_up (va_up v2 3 0) 4 0)) := hD
  refine lv_aload_n hx hb dX0_takeOver_16 rfl (lv_at hl 0 rfl) ?_
  refine lv_aload_n hx hb dX0_takeOver_17 rfl (lv_at hl 1 rfl) ?_
  refine va_get (D := D) (ci := 4) (v := .int (v 5)) (C := RX0) (T := TX0) (N := 9) hx hb hts (fun w9 h9 => fz_m (fin_X0 w9 h9)) hown hK hP 14 rfl rfl 2 (by decide) (hts _ (fz_m fm_311)) (fun _ h9 => h9) rfl dX0_takeOver_18 ?_
  refine fz_I (y := 0) g_v_5 ?_
  refine va_put (D := D) (ci := 4) (v := .int 0) (ty := .int) (C := RX0) (T := TX0) (N := 9) hx hb hts (fun w9 h9 => fz_m (fin_X0 w9 h9)) tyX0 tyX0_ok nmX0 hown hK hP hD hS 52 rfl rfl 2 (by decide) (hts _ (fz_m fm_311)) (fun _ h9 => h9) rfl (by decide +kernel) rfl rfl (Nat.le_of_ble_eq_true rfl) dX0_takeOver_21 (fun H locs hP hD hS => ?_)
  have hP : va_P D vwCl (fz_W2 k q f pa v q2 f2 (va_up (va_up (va_up v2 3 0) 4 0) 5 0)) H := hP
  have hD : va_D A (fz_W2 k q f pa v q2 f2 (va_up (va_up (va_up v2 3 0) 4 0) 5 0)) := hD
  refine lv_aload_n hx hb dX0_takeOver_24 rfl (lv_at hl 1 rfl) ?_
  refine va_get (D := D) (ci := 4) (v := .ref (q 15)) (C := RX0) (T := TX0) (N := 9) hx hb hts (fun w9 h9 => fz_m (fin_X0 w9 h9)) hown hK hP 14 rfl rfl 3 (by decide) (hts _ (fz_m fm_212)) (fun _ h9 => h9) rfl dX0_takeOver_25 ?_
  refine lv_iconst (v := 0) hx hb dX0_takeOver_28 (by decide) ?_
  refine lv_aload_n hx hb dX0_takeOver_29 rfl (lv_at hl 0 rfl) ?_
  refine va_get (D := D) (ci := 4) (v := .ref (q2 15)) (C := RX0) (T := TX0) (N := 9) hx hb hts (fun w9 h9 => fz_m (fin_X0 w9 h9)) hown hK hP 52 rfl rfl 3 (by decide) (hts _ (fz_m fm_212)) (fun _ h9 => h9) rfl dX0_takeOver_30 ?_
  refine lv_iconst (v := 0) hx hb dX0_takeOver_33 (by decide) ?_
  refine lv_bipush (v := 30) hx hb dX0_takeOver_34 (by decide) ?_
  refine va_copyi hx hb (hml.trans hl.1.symm) hown (hts _ (fz_m fm_402)) (hts _ (fz_m fm_254)) (hts _ (fz_m fm_255)) (hts _ (fz_m fm_256)) hK hP hD hS 15 53 0 0 rfl rfl rfl rfl rfl (by decide) (by decide) (by decide) (by decide) (by decide) (fun _ _ => rfl) (Nat.le_of_ble_eq_true rfl) (Nat.le_of_ble_eq_true rfl) dX0_takeOver_36 (fun H locs hP hD hS => ?_)
  have hP : va_P D vwCl (fz_W2 k q f pa v q2 (va_up f2 15 (va_cpy (f 15) (f2 15) (0 : Int32).toNatClampNeg (0 : Int32).toNatClampNeg (30 : Int32).toNatClampNeg)) (va_up (va_up (va_up v2 3 0) 4 0) 5 0)) H := hP
  have hD : va_D A (fz_W2 k q f pa v q2 (va_up f2 15 (va_cpy (f 15) (f2 15) (0 : Int32).toNatClampNeg (0 : Int32).toNatClampNeg (30 : Int32).toNatClampNeg)) (va_up (va_up (va_up v2 3 0) 4 0) 5 0)) := hD
  refine lv_aload_n hx hb dX0_takeOver_39 rfl (lv_at hl 1 rfl) ?_
  refine va_get (D := D) (ci := 4) (v := .ref (q 16)) (C := RX0) (T := TX0) (N := 9) hx hb hts (fun w9 h9 => fz_m (fin_X0 w9 h9)) hown hK hP 14 rfl rfl 4 (by decide) (hts _ (fz_m fm_312)) (fun _ h9 => h9) rfl dX0_takeOver_40 ?_
  refine lv_iconst (v := 0) hx hb dX0_takeOver_43 (by decide) ?_
  refine lv_aload_n hx hb dX0_takeOver_44 rfl (lv_at hl 0 rfl) ?_
  refine va_get (D := D) (ci := 4) (v := .ref (q2 16)) (C := RX0) (T := TX0) (N := 9) hx hb hts (fun w9 h9 => fz_m (fin_X0 w9 h9)) hown hK hP 52 rfl rfl 4 (by decide) (hts _ (fz_m fm_312)) (fun _ h9 => h9) rfl dX0_takeOver_45 ?_
  refine lv_iconst (v := 0) hx hb dX0_takeOver_48 (by decide) ?_
  refine lv_bipush (v := 30) hx hb dX0_takeOver_49 (by decide) ?_
  refine va_copyi hx hb (hml.trans hl.1.symm) hown (hts _ (fz_m fm_402)) (hts _ (fz_m fm_254)) (hts _ (fz_m fm_255)) (hts _ (fz_m fm_256)) hK hP hD hS 16 54 0 0 rfl rfl rfl rfl rfl (by decide) (by decide) (by decide) (by decide) (by decide) (fun _ _ => rfl) (Nat.le_of_ble_eq_true rfl) (Nat.le_of_ble_eq_true rfl) dX0_takeOver_51 (fun H locs hP hD hS => ?_)
  have hP : va_P D vwCl (fz_W2 k q f pa v q2 (va_up (va_up f2 15 (va_cpy (f 15) (f2 15) (0 : Int32).toNatClampNeg (0 : Int32).toNatClampNeg (30 : Int32).toNatClampNeg)) 16 (va_cpy (f 16) (f2 16) (0 : Int32).toNatClampNeg (0 : Int32).toNatClampNeg (30 : Int32).toNatClampNeg)) (va_up (va_up (va_up v2 3 0) 4 0) 5 0)) H := hP
  have hD : va_D A (fz_W2 k q f pa v q2 (va_up (va_up f2 15 (va_cpy (f 15) (f2 15) (0 : Int32).toNatClampNeg (0 : Int32).toNatClampNeg (30 : Int32).toNatClampNeg)) 16 (va_cpy (f 16) (f2 16) (0 : Int32).toNatClampNeg (0 : Int32).toNatClampNeg (30 : Int32).toNatClampNeg)) (va_up (va_up (va_up v2 3 0) 4 0) 5 0)) := hD
  refine lv_aload_n hx hb dX0_takeOver_54 rfl (lv_at hl 1 rfl) ?_
  refine va_get (D := D) (ci := 4) (v := .ref (q 17)) (C := RX0) (T := TX0) (N := 9) hx hb hts (fun w9 h9 => fz_m (fin_X0 w9 h9)) hown hK hP 14 rfl rfl 5 (by decide) (hts _ (fz_m fm_313)) (fun _ h9 => h9) rfl dX0_takeOver_55 ?_
  refine lv_iconst (v := 0) hx hb dX0_takeOver_58 (by decide) ?_
  refine lv_aload_n hx hb dX0_takeOver_59 rfl (lv_at hl 0 rfl) ?_
  refine va_get (D := D) (ci := 4) (v := .ref (q2 17)) (C := RX0) (T := TX0) (N := 9) hx hb hts (fun w9 h9 => fz_m (fin_X0 w9 h9)) hown hK hP 52 rfl rfl 5 (by decide) (hts _ (fz_m fm_313)) (fun _ h9 => h9) rfl dX0_takeOver_60 ?_
  refine lv_iconst (v := 0) hx hb dX0_takeOver_63 (by decide) ?_
  refine lv_bipush (v := 40) hx hb dX0_takeOver_64 (by decide) ?_
  refine va_copyi hx hb (hml.trans hl.1.symm) hown (hts _ (fz_m fm_402)) (hts _ (fz_m fm_254)) (hts _ (fz_m fm_255)) (hts _ (fz_m fm_256)) hK hP hD hS 17 55 0 0 rfl rfl rfl rfl rfl (by decide) (by decide) (by decide) (by decide) (by decide) (fun _ _ => rfl) (Nat.le_of_ble_eq_true rfl) (Nat.le_of_ble_eq_true rfl) dX0_takeOver_66 (fun H locs hP hD hS => ?_)
  have hP : va_P D vwCl (fz_W2 k q f pa v q2 (va_up (va_up (va_up f2 15 (va_cpy (f 15) (f2 15) (0 : Int32).toNatClampNeg (0 : Int32).toNatClampNeg (30 : Int32).toNatClampNeg)) 16 (va_cpy (f 16) (f2 16) (0 : Int32).toNatClampNeg (0 : Int32).toNatClampNeg (30 : Int32).toNatClampNeg)) 17 (va_cpy (f 17) (f2 17) (0 : Int32).toNatClampNeg (0 : Int32).toNatClampNeg (40 : Int32).toNatClampNeg)) (va_up (va_up (va_up v2 3 0) 4 0) 5 0)) H := hP
  have hD : va_D A (fz_W2 k q f pa v q2 (va_up (va_up (va_up f2 15 (va_cpy (f 15) (f2 15) (0 : Int32).toNatClampNeg (0 : Int32).toNatClampNeg (30 : Int32).toNatClampNeg)) 16 (va_cpy (f 16) (f2 16) (0 : Int32).toNatClampNeg (0 : Int32).toNatClampNeg (30 : Int32).toNatClampNeg)) 17 (va_cpy (f 17) (f2 17) (0 : Int32).toNatClampNeg (0 : Int32).toNatClampNeg (40 : Int32).toNatClampNeg)) (va_up (va_up (va_up v2 3 0) 4 0) 5 0)) := hD
  refine lv_aload_n hx hb dX0_takeOver_69 rfl (lv_at hl 1 rfl) ?_
  refine va_get (D := D) (ci := 4) (v := .ref (q 18)) (C := RX0) (T := TX0) (N := 9) hx hb hts (fun w9 h9 => fz_m (fin_X0 w9 h9)) hown hK hP 14 rfl rfl 6 (by decide) (hts _ (fz_m fm_314)) (fun _ h9 => h9) rfl dX0_takeOver_70 ?_
  refine lv_iconst (v := 0) hx hb dX0_takeOver_73 (by decide) ?_
  refine lv_aload_n hx hb dX0_takeOver_74 rfl (lv_at hl 0 rfl) ?_
  refine va_get (D := D) (ci := 4) (v := .ref (q2 18)) (C := RX0) (T := TX0) (N := 9) hx hb hts (fun w9 h9 => fz_m (fin_X0 w9 h9)) hown hK hP 52 rfl rfl 6 (by decide) (hts _ (fz_m fm_314)) (fun _ h9 => h9) rfl dX0_takeOver_75 ?_
  refine lv_iconst (v := 0) hx hb dX0_takeOver_78 (by decide) ?_
  refine lv_bipush (v := 40) hx hb dX0_takeOver_79 (by decide) ?_
  refine va_copyi hx hb (hml.trans hl.1.symm) hown (hts _ (fz_m fm_402)) (hts _ (fz_m fm_254)) (hts _ (fz_m fm_255)) (hts _ (fz_m fm_256)) hK hP hD hS 18 56 0 0 rfl rfl rfl rfl rfl (by decide) (by decide) (by decide) (by decide) (by decide) (fun _ _ => rfl) (Nat.le_of_ble_eq_true rfl) (Nat.le_of_ble_eq_true rfl) dX0_takeOver_81 (fun H locs hP hD hS => ?_)
  have hP : va_P D vwCl (fz_W2 k q f pa v q2 (va_up (va_up (va_up (va_up f2 15 (va_cpy (f 15) (f2 15) (0 : Int32).toNatClampNeg (0 : Int32).toNatClampNeg (30 : Int32).toNatClampNeg)) 16 (va_cpy (f 16) (f2 16) (0 : Int32).toNatClampNeg (0 : Int32).toNatClampNeg (30 : Int32).toNatClampNeg)) 17 (va_cpy (f 17) (f2 17) (0 : Int32).toNatClampNeg (0 : Int32).toNatClampNeg (40 : Int32).toNatClampNeg)) 18 (va_cpy (f 18) (f2 18) (0 : Int32).toNatClampNeg (0 : Int32).toNatClampNeg (40 : Int32).toNatClampNeg)) (va_up (va_up (va_up v2 3 0) 4 0) 5 0)) H := hP
  have hD : va_D A (fz_W2 k q f pa v q2 (va_up (va_up (va_up (va_up f2 15 (va_cpy (f 15) (f2 15) (0 : Int32).toNatClampNeg (0 : Int32).toNatClampNeg (30 : Int32).toNatClampNeg)) 16 (va_cpy (f 16) (f2 16) (0 : Int32).toNatClampNeg (0 : Int32).toNatClampNeg (30 : Int32).toNatClampNeg)) 17 (va_cpy (f 17) (f2 17) (0 : Int32).toNatClampNeg (0 : Int32).toNatClampNeg (40 : Int32).toNatClampNeg)) 18 (va_cpy (f 18) (f2 18) (0 : Int32).toNatClampNeg (0 : Int32).toNatClampNeg (40 : Int32).toNatClampNeg)) (va_up (va_up (va_up v2 3 0) 4 0) 5 0)) := hD
  refine lv_aload_n hx hb dX0_takeOver_84 rfl (lv_at hl 1 rfl) ?_
  refine va_get (D := D) (ci := 4) (v := .ref (q 19)) (C := RX0) (T := TX0) (N := 9) hx hb hts (fun w9 h9 => fz_m (fin_X0 w9 h9)) hown hK hP 14 rfl rfl 7 (by decide) (hts _ (fz_m fm_315)) (fun _ h9 => h9) rfl dX0_takeOver_85 ?_
  refine lv_iconst (v := 0) hx hb dX0_takeOver_88 (by decide) ?_
  refine lv_aload_n hx hb dX0_takeOver_89 rfl (lv_at hl 0 rfl) ?_
  refine va_get (D := D) (ci := 4) (v := .ref (q2 19)) (C := RX0) (T := TX0) (N := 9) hx hb hts (fun w9 h9 => fz_m (fin_X0 w9 h9)) hown hK hP 52 rfl rfl 7 (by decide) (hts _ (fz_m fm_315)) (fun _ h9 => h9) rfl dX0_takeOver_90 ?_
  refine lv_iconst (v := 0) hx hb dX0_takeOver_93 (by decide) ?_
  refine lv_bipush (v := 40) hx hb dX0_takeOver_94 (by decide) ?_
  refine va_copyi hx hb (hml.trans hl.1.symm) hown (hts _ (fz_m fm_402)) (hts _ (fz_m fm_254)) (hts _ (fz_m fm_255)) (hts _ (fz_m fm_256)) hK hP hD hS 19 57 0 0 rfl rfl rfl rfl rfl (by decide) (by decide) (by decide) (by decide) (by decide) (fun _ _ => rfl) (Nat.le_of_ble_eq_true rfl) (Nat.le_of_ble_eq_true rfl) dX0_takeOver_96 (fun H locs hP hD hS => ?_)
  have hP : va_P D vwCl (fz_W2 k q f pa v q2 (va_up (va_up (va_up (va_up (va_up f2 15 (va_cpy (f 15) (f2 15) (0 : Int32).toNatClampNeg (0 : Int32).toNatClampNeg (30 : Int32).toNatClampNeg)) 16 (va_cpy (f 16) (f2 16) (0 : Int32).toNatClampNeg (0 : Int32).toNatClampNeg (30 : Int32).toNatClampNeg)) 17 (va_cpy (f 17) (f2 17) (0 : Int32).toNatClampNeg (0 : Int32).toNatClampNeg (40 : Int32).toNatClampNeg)) 18 (va_cpy (f 18) (f2 18) (0 : Int32).toNatClampNeg (0 : Int32).toNatClampNeg (40 : Int32).toNatClampNeg)) 19 (va_cpy (f 19) (f2 19) (0 : Int32).toNatClampNeg (0 : Int32).toNatClampNeg (40 : Int32).toNatClampNeg)) (va_up (va_up (va_up v2 3 0) 4 0) 5 0)) H := hP
  have hD : va_D A (fz_W2 k q f pa v q2 (va_up (va_up (va_up (va_up (va_up f2 15 (va_cpy (f 15) (f2 15) (0 : Int32).toNatClampNeg (0 : Int32).toNatClampNeg (30 : Int32).toNatClampNeg)) 16 (va_cpy (f 16) (f2 16) (0 : Int32).toNatClampNeg (0 : Int32).toNatClampNeg (30 : Int32).toNatClampNeg)) 17 (va_cpy (f 17) (f2 17) (0 : Int32).toNatClampNeg (0 : Int32).toNatClampNeg (40 : Int32).toNatClampNeg)) 18 (va_cpy (f 18) (f2 18) (0 : Int32).toNatClampNeg (0 : Int32).toNatClampNeg (40 : Int32).toNatClampNeg)) 19 (va_cpy (f 19) (f2 19) (0 : Int32).toNatClampNeg (0 : Int32).toNatClampNeg (40 : Int32).toNatClampNeg)) (va_up (va_up (va_up v2 3 0) 4 0) 5 0)) := hD
  refine lv_aload_n hx hb dX0_takeOver_99 rfl (lv_at hl 0 rfl) ?_
  refine va_get (D := D) (ci := 4) (v := .ref (q2 20)) (C := RX0) (T := TX0) (N := 9) hx hb hts (fun w9 h9 => fz_m (fin_X0 w9 h9)) hown hK hP 52 rfl rfl 8 (by decide) (hts _ (fz_m fm_321)) (fun _ h9 => h9) rfl dX0_takeOver_100 ?_
  refine lv_aload_n hx hb dX0_takeOver_103 rfl (lv_at hl 1 rfl) ?_
  refine va_get (D := D) (ci := 4) (v := .ref (q 20)) (C := RX0) (T := TX0) (N := 9) hx hb hts (fun w9 h9 => fz_m (fin_X0 w9 h9)) hown hK hP 14 rfl rfl 8 (by decide) (hts _ (fz_m fm_321)) (fun _ h9 => h9) rfl dX0_takeOver_104 ?_
  refine fz_cVv (As := [.ref (q 20)]) (rest := []) S0 (c_toMarks l A D k q f pa v q2 (va_up (va_up (va_up (va_up (va_up f2 15 (va_cpy (f 15) (f2 15) (0 : Int32).toNatClampNeg (0 : Int32).toNatClampNeg (30 : Int32).toNatClampNeg)) 16 (va_cpy (f 16) (f2 16) (0 : Int32).toNatClampNeg (0 : Int32).toNatClampNeg (30 : Int32).toNatClampNeg)) 17 (va_cpy (f 17) (f2 17) (0 : Int32).toNatClampNeg (0 : Int32).toNatClampNeg (40 : Int32).toNatClampNeg)) 18 (va_cpy (f 18) (f2 18) (0 : Int32).toNatClampNeg (0 : Int32).toNatClampNeg (40 : Int32).toNatClampNeg)) 19 (va_cpy (f 19) (f2 19) (0 : Int32).toNatClampNeg (0 : Int32).toNatClampNeg (40 : Int32).toNatClampNeg)) (va_up (va_up (va_up v2 3 0) 4 0) 5 0) g_v_6) (fz_cwV (C := RX3) 1 hts fm_403 fm_404 fm_405 fm_406 fm_183 rfl rfl ⟨by decide, by decide, by decide +kernel⟩ ⟨Nat.le_of_ble_eq_true rfl, Nat.le_of_ble_eq_true rfl⟩) (va_recv hK hP (ci := 7) (q0 := 58) rfl rfl) (fun _ h9 => h9) (fun a9 h9 => hA a9 (Nat.le_trans hS.1 h9)) hG hS hP hK hD rfl hl.1 rfl (Nat.le_of_ble_eq_true rfl) dX0_takeOver_107 ⟨Nat.le_of_ble_eq_true rfl, Nat.le_of_ble_eq_true rfl⟩ (fun u_1 H locs hw hz1 hk1 hP hS => ?_)
  have hP : va_P D vwCl (fz_W2 k q f pa v q2 u_1.1 u_1.2) H := hP
  have hD : va_D A (fz_W2 k q f pa v q2 u_1.1 u_1.2) := fz_Dsame hD rfl
  exact fz_vret hx hb hr hlocks hS dX0_takeOver_110 (u_1.1, u_1.2) trivial hP (Nat.le_of_ble_eq_true rfl) (Nat.le_of_ble_eq_true rfl)

set_option maxHeartbeats 4000000 in
set_option maxRecDepth 100000 in
theorem c_toCopies (l : Launch) (A : Nat → Prop) (D : va_G) (k : Nat → ClassId) (q : Nat → Nat) (f : Nat → Nat → Int32) (pa : Nat → Option Nat) (v : Nat → Int32) (q2 : Nat → Nat) (f2 : Nat → Nat → Int32) (v2 : Nat → Int32) (g_v_7 : v 7 = 0)  :
    Met l yX1_takeOver (fz_ws yX1_takeOver cX1_takeOver 2 none) { frames := 12, cells := 0, slots := 0, locals := 160 } (va_Pc [.ref (q2 23), .ref (q 23)] (fz_PC A D (fz_tys k) (fz_W2 k q f pa v q2 f2 v2))) (fz_QV D A (fun (u : (Nat → Nat → Int32) × (Nat → Int32)) => fz_W2 k q f pa v q2 u.1 u.2) (fun (_ : (Nat → Nat → Int32) × (Nat → Int32)) => True)) 0 0 A := by
  refine fz_of (by decide +kernel) (Nat.le_of_ble_eq_true rfl) ?_
  intro p e s m below meth c hx hb hr hml hown hlocks hts hin hA hP hK hD hG hS ls hl
  have hown : s.vm.findClass RX1 = some m.cls := hown
  have S0 : CallFix p m c cX1_takeOver 2 s [.ref (q2 23), .ref (q 23)].toArray (fz_ws yX1_takeOver cX1_takeOver 2 none) RX1 := ⟨hx, hb, hml, hown, hts⟩
  have hl : lv_has ls 2 [(0, .ref (q2 23)), (1, .ref (q 23))] := hl
  refine lv_aload_n hx hb dX1_takeOver_0 rfl (lv_at hl 0 rfl) ?_
  refine lv_aload_n hx hb dX1_takeOver_1 rfl (lv_at hl 1 rfl) ?_
  refine va_get (D := D) (ci := 5) (v := .int (v 7)) (C := RX1) (T := TX1) (N := 3) hx hb hts (fun w9 h9 => fz_m (fin_X1 w9 h9)) hown hK hP 23 rfl rfl 0 (by decide) (hts _ (fz_m fm_8)) (fun _ h9 => h9) rfl dX1_takeOver_2 ?_
  refine fz_I (y := 0) g_v_7 ?_
  refine va_put (D := D) (ci := 5) (v := .int 0) (ty := .int) (C := RX1) (T := TX1) (N := 3) hx hb hts (fun w9 h9 => fz_m (fin_X1 w9 h9)) tyX1 tyX1_ok nmX1 hown hK hP hD hS 61 rfl rfl 0 (by decide) (hts _ (fz_m fm_8)) (fun _ h9 => h9) rfl (by decide +kernel) rfl rfl (Nat.le_of_ble_eq_true rfl) dX1_takeOver_5 (fun H locs hP hD hS => ?_)
  have hP : va_P D vwCl (fz_W2 k q f pa v q2 f2 (va_up v2 7 0)) H := hP
  have hD : va_D A (fz_W2 k q f pa v q2 f2 (va_up v2 7 0)) := hD
  refine lv_aload_n hx hb dX1_takeOver_8 rfl (lv_at hl 1 rfl) ?_
  refine va_get (D := D) (ci := 5) (v := .ref (q 24)) (C := RX1) (T := TX1) (N := 3) hx hb hts (fun w9 h9 => fz_m (fin_X1 w9 h9)) hown hK hP 23 rfl rfl 1 (by decide) (hts _ (fz_m fm_324)) (fun _ h9 => h9) rfl dX1_takeOver_9 ?_
  refine lv_iconst (v := 0) hx hb dX1_takeOver_12 (by decide) ?_
  refine lv_aload_n hx hb dX1_takeOver_13 rfl (lv_at hl 0 rfl) ?_
  refine va_get (D := D) (ci := 5) (v := .ref (q2 24)) (C := RX1) (T := TX1) (N := 3) hx hb hts (fun w9 h9 => fz_m (fin_X1 w9 h9)) hown hK hP 61 rfl rfl 1 (by decide) (hts _ (fz_m fm_324)) (fun _ h9 => h9) rfl dX1_takeOver_14 ?_
  refine lv_iconst (v := 0) hx hb dX1_takeOver_17 (by decide) ?_
  refine lv_bipush (v := 16) hx hb dX1_takeOver_18 (by decide) ?_
  refine va_copyi hx hb (hml.trans hl.1.symm) hown (hts _ (fz_m fm_407)) (hts _ (fz_m fm_254)) (hts _ (fz_m fm_255)) (hts _ (fz_m fm_256)) hK hP hD hS 24 62 0 0 rfl rfl rfl rfl rfl (by decide) (by decide) (by decide) (by decide) (by decide) (fun _ _ => rfl) (Nat.le_of_ble_eq_true rfl) (Nat.le_of_ble_eq_true rfl) dX1_takeOver_20 (fun H locs hP hD hS => ?_)
  have hP : va_P D vwCl (fz_W2 k q f pa v q2 (va_up f2 24 (va_cpy (f 24) (f2 24) (0 : Int32).toNatClampNeg (0 : Int32).toNatClampNeg (16 : Int32).toNatClampNeg)) (va_up v2 7 0)) H := hP
  have hD : va_D A (fz_W2 k q f pa v q2 (va_up f2 24 (va_cpy (f 24) (f2 24) (0 : Int32).toNatClampNeg (0 : Int32).toNatClampNeg (16 : Int32).toNatClampNeg)) (va_up v2 7 0)) := hD
  refine lv_aload_n hx hb dX1_takeOver_23 rfl (lv_at hl 1 rfl) ?_
  refine va_get (D := D) (ci := 5) (v := .ref (q 25)) (C := RX1) (T := TX1) (N := 3) hx hb hts (fun w9 h9 => fz_m (fin_X1 w9 h9)) hown hK hP 23 rfl rfl 2 (by decide) (hts _ (fz_m fm_325)) (fun _ h9 => h9) rfl dX1_takeOver_24 ?_
  refine lv_iconst (v := 0) hx hb dX1_takeOver_27 (by decide) ?_
  refine lv_aload_n hx hb dX1_takeOver_28 rfl (lv_at hl 0 rfl) ?_
  refine va_get (D := D) (ci := 5) (v := .ref (q2 25)) (C := RX1) (T := TX1) (N := 3) hx hb hts (fun w9 h9 => fz_m (fin_X1 w9 h9)) hown hK hP 61 rfl rfl 2 (by decide) (hts _ (fz_m fm_325)) (fun _ h9 => h9) rfl dX1_takeOver_29 ?_
  refine lv_iconst (v := 0) hx hb dX1_takeOver_32 (by decide) ?_
  refine lv_bipush (v := 16) hx hb dX1_takeOver_33 (by decide) ?_
  refine va_copyi hx hb (hml.trans hl.1.symm) hown (hts _ (fz_m fm_407)) (hts _ (fz_m fm_254)) (hts _ (fz_m fm_255)) (hts _ (fz_m fm_256)) hK hP hD hS 25 63 0 0 rfl rfl rfl rfl rfl (by decide) (by decide) (by decide) (by decide) (by decide) (fun _ _ => rfl) (Nat.le_of_ble_eq_true rfl) (Nat.le_of_ble_eq_true rfl) dX1_takeOver_35 (fun H locs hP hD hS => ?_)
  have hP : va_P D vwCl (fz_W2 k q f pa v q2 (va_up (va_up f2 24 (va_cpy (f 24) (f2 24) (0 : Int32).toNatClampNeg (0 : Int32).toNatClampNeg (16 : Int32).toNatClampNeg)) 25 (va_cpy (f 25) (f2 25) (0 : Int32).toNatClampNeg (0 : Int32).toNatClampNeg (16 : Int32).toNatClampNeg)) (va_up v2 7 0)) H := hP
  have hD : va_D A (fz_W2 k q f pa v q2 (va_up (va_up f2 24 (va_cpy (f 24) (f2 24) (0 : Int32).toNatClampNeg (0 : Int32).toNatClampNeg (16 : Int32).toNatClampNeg)) 25 (va_cpy (f 25) (f2 25) (0 : Int32).toNatClampNeg (0 : Int32).toNatClampNeg (16 : Int32).toNatClampNeg)) (va_up v2 7 0)) := hD
  exact fz_vret hx hb hr hlocks hS dX1_takeOver_38 ((va_up (va_up f2 24 (va_cpy (f 24) (f2 24) (0 : Int32).toNatClampNeg (0 : Int32).toNatClampNeg (16 : Int32).toNatClampNeg)) 25 (va_cpy (f 25) (f2 25) (0 : Int32).toNatClampNeg (0 : Int32).toNatClampNeg (16 : Int32).toNatClampNeg)), (va_up v2 7 0)) trivial hP (Nat.le_of_ble_eq_true rfl) (Nat.le_of_ble_eq_true rfl)

set_option maxHeartbeats 4000000 in
set_option maxRecDepth 100000 in
theorem c_toReq (l : Launch) (A : Nat → Prop) (D : va_G) (k : Nat → ClassId) (q : Nat → Nat) (f : Nat → Nat → Int32) (pa : Nat → Option Nat) (v : Nat → Int32) (q2 : Nat → Nat) (f2 : Nat → Nat → Int32) (v2 : Nat → Int32) (g_v_8 : v 8 = 0)  :
    Met l yX5_takeOver (fz_ws yX5_takeOver cX5_takeOver 2 none) { frames := 12, cells := 0, slots := 0, locals := 160 } (va_Pc [.ref (q2 26), .ref (q 26)] (fz_PC A D (fz_tys k) (fz_W2 k q f pa v q2 f2 v2))) (fz_QV D A (fun (u : (Nat → Nat → Int32) × (Nat → Int32)) => fz_W2 k q f pa v q2 u.1 u.2) (fun (_ : (Nat → Nat → Int32) × (Nat → Int32)) => True)) 0 0 A := by
  refine fz_of (by decide +kernel) (Nat.le_of_ble_eq_true rfl) ?_
  intro p e s m below meth c hx hb hr hml hown hlocks hts hin hA hP hK hD hG hS ls hl
  have hown : s.vm.findClass RX5 = some m.cls := hown
  have S0 : CallFix p m c cX5_takeOver 2 s [.ref (q2 26), .ref (q 26)].toArray (fz_ws yX5_takeOver cX5_takeOver 2 none) RX5 := ⟨hx, hb, hml, hown, hts⟩
  have hl : lv_has ls 2 [(0, .ref (q2 26)), (1, .ref (q 26))] := hl
  refine lv_aload_n hx hb dX5_takeOver_0 rfl (lv_at hl 0 rfl) ?_
  refine lv_aload_n hx hb dX5_takeOver_1 rfl (lv_at hl 1 rfl) ?_
  refine va_get (D := D) (ci := 9) (v := .int (v 8)) (C := RX5) (T := TX5) (N := 5) hx hb hts (fun w9 h9 => fz_m (fin_X5 w9 h9)) hown hK hP 26 rfl rfl 0 (by decide) (hts _ (fz_m fm_80)) (fun _ h9 => h9) rfl dX5_takeOver_2 ?_
  refine fz_I (y := 0) g_v_8 ?_
  refine va_put (D := D) (ci := 9) (v := .int 0) (ty := .int) (C := RX5) (T := TX5) (N := 5) hx hb hts (fun w9 h9 => fz_m (fin_X5 w9 h9)) tyX5 tyX5_ok nmX5 hown hK hP hD hS 64 rfl rfl 0 (by decide) (hts _ (fz_m fm_80)) (fun _ h9 => h9) rfl (by decide +kernel) rfl rfl (Nat.le_of_ble_eq_true rfl) dX5_takeOver_5 (fun H locs hP hD hS => ?_)
  have hP : va_P D vwCl (fz_W2 k q f pa v q2 f2 (va_up v2 8 0)) H := hP
  have hD : va_D A (fz_W2 k q f pa v q2 f2 (va_up v2 8 0)) := hD
  refine lv_aload_n hx hb dX5_takeOver_8 rfl (lv_at hl 1 rfl) ?_
  refine va_get (D := D) (ci := 9) (v := .ref (q 27)) (C := RX5) (T := TX5) (N := 5) hx hb hts (fun w9 h9 => fz_m (fin_X5 w9 h9)) hown hK hP 26 rfl rfl 1 (by decide) (hts _ (fz_m fm_327)) (fun _ h9 => h9) rfl dX5_takeOver_9 ?_
  refine lv_iconst (v := 0) hx hb dX5_takeOver_12 (by decide) ?_
  refine lv_aload_n hx hb dX5_takeOver_13 rfl (lv_at hl 0 rfl) ?_
  refine va_get (D := D) (ci := 9) (v := .ref (q2 27)) (C := RX5) (T := TX5) (N := 5) hx hb hts (fun w9 h9 => fz_m (fin_X5 w9 h9)) hown hK hP 64 rfl rfl 1 (by decide) (hts _ (fz_m fm_327)) (fun _ h9 => h9) rfl dX5_takeOver_14 ?_
  refine lv_iconst (v := 0) hx hb dX5_takeOver_17 (by decide) ?_
  refine lv_bipush (v := 30) hx hb dX5_takeOver_18 (by decide) ?_
  refine va_copyi hx hb (hml.trans hl.1.symm) hown (hts _ (fz_m fm_408)) (hts _ (fz_m fm_254)) (hts _ (fz_m fm_255)) (hts _ (fz_m fm_256)) hK hP hD hS 27 65 0 0 rfl rfl rfl rfl rfl (by decide) (by decide) (by decide) (by decide) (by decide) (fun _ _ => rfl) (Nat.le_of_ble_eq_true rfl) (Nat.le_of_ble_eq_true rfl) dX5_takeOver_20 (fun H locs hP hD hS => ?_)
  have hP : va_P D vwCl (fz_W2 k q f pa v q2 (va_up f2 27 (va_cpy (f 27) (f2 27) (0 : Int32).toNatClampNeg (0 : Int32).toNatClampNeg (30 : Int32).toNatClampNeg)) (va_up v2 8 0)) H := hP
  have hD : va_D A (fz_W2 k q f pa v q2 (va_up f2 27 (va_cpy (f 27) (f2 27) (0 : Int32).toNatClampNeg (0 : Int32).toNatClampNeg (30 : Int32).toNatClampNeg)) (va_up v2 8 0)) := hD
  refine lv_aload_n hx hb dX5_takeOver_23 rfl (lv_at hl 1 rfl) ?_
  refine va_get (D := D) (ci := 9) (v := .ref (q 28)) (C := RX5) (T := TX5) (N := 5) hx hb hts (fun w9 h9 => fz_m (fin_X5 w9 h9)) hown hK hP 26 rfl rfl 2 (by decide) (hts _ (fz_m fm_328)) (fun _ h9 => h9) rfl dX5_takeOver_24 ?_
  refine lv_iconst (v := 0) hx hb dX5_takeOver_27 (by decide) ?_
  refine lv_aload_n hx hb dX5_takeOver_28 rfl (lv_at hl 0 rfl) ?_
  refine va_get (D := D) (ci := 9) (v := .ref (q2 28)) (C := RX5) (T := TX5) (N := 5) hx hb hts (fun w9 h9 => fz_m (fin_X5 w9 h9)) hown hK hP 64 rfl rfl 2 (by decide) (hts _ (fz_m fm_328)) (fun _ h9 => h9) rfl dX5_takeOver_29 ?_
  refine lv_iconst (v := 0) hx hb dX5_takeOver_32 (by decide) ?_
  refine lv_bipush (v := 30) hx hb dX5_takeOver_33 (by decide) ?_
  refine va_copyi hx hb (hml.trans hl.1.symm) hown (hts _ (fz_m fm_408)) (hts _ (fz_m fm_254)) (hts _ (fz_m fm_255)) (hts _ (fz_m fm_256)) hK hP hD hS 28 66 0 0 rfl rfl rfl rfl rfl (by decide) (by decide) (by decide) (by decide) (by decide) (fun _ _ => rfl) (Nat.le_of_ble_eq_true rfl) (Nat.le_of_ble_eq_true rfl) dX5_takeOver_35 (fun H locs hP hD hS => ?_)
  have hP : va_P D vwCl (fz_W2 k q f pa v q2 (va_up (va_up f2 27 (va_cpy (f 27) (f2 27) (0 : Int32).toNatClampNeg (0 : Int32).toNatClampNeg (30 : Int32).toNatClampNeg)) 28 (va_cpy (f 28) (f2 28) (0 : Int32).toNatClampNeg (0 : Int32).toNatClampNeg (30 : Int32).toNatClampNeg)) (va_up v2 8 0)) H := hP
  have hD : va_D A (fz_W2 k q f pa v q2 (va_up (va_up f2 27 (va_cpy (f 27) (f2 27) (0 : Int32).toNatClampNeg (0 : Int32).toNatClampNeg (30 : Int32).toNatClampNeg)) 28 (va_cpy (f 28) (f2 28) (0 : Int32).toNatClampNeg (0 : Int32).toNatClampNeg (30 : Int32).toNatClampNeg)) (va_up v2 8 0)) := hD
  refine lv_aload_n hx hb dX5_takeOver_38 rfl (lv_at hl 1 rfl) ?_
  refine va_get (D := D) (ci := 9) (v := .ref (q 29)) (C := RX5) (T := TX5) (N := 5) hx hb hts (fun w9 h9 => fz_m (fin_X5 w9 h9)) hown hK hP 26 rfl rfl 3 (by decide) (hts _ (fz_m fm_329)) (fun _ h9 => h9) rfl dX5_takeOver_39 ?_
  refine lv_iconst (v := 0) hx hb dX5_takeOver_42 (by decide) ?_
  refine lv_aload_n hx hb dX5_takeOver_43 rfl (lv_at hl 0 rfl) ?_
  refine va_get (D := D) (ci := 9) (v := .ref (q2 29)) (C := RX5) (T := TX5) (N := 5) hx hb hts (fun w9 h9 => fz_m (fin_X5 w9 h9)) hown hK hP 64 rfl rfl 3 (by decide) (hts _ (fz_m fm_329)) (fun _ h9 => h9) rfl dX5_takeOver_44 ?_
  refine lv_iconst (v := 0) hx hb dX5_takeOver_47 (by decide) ?_
  refine lv_bipush (v := 30) hx hb dX5_takeOver_48 (by decide) ?_
  refine va_copyi hx hb (hml.trans hl.1.symm) hown (hts _ (fz_m fm_408)) (hts _ (fz_m fm_254)) (hts _ (fz_m fm_255)) (hts _ (fz_m fm_256)) hK hP hD hS 29 67 0 0 rfl rfl rfl rfl rfl (by decide) (by decide) (by decide) (by decide) (by decide) (fun _ _ => rfl) (Nat.le_of_ble_eq_true rfl) (Nat.le_of_ble_eq_true rfl) dX5_takeOver_50 (fun H locs hP hD hS => ?_)
  have hP : va_P D vwCl (fz_W2 k q f pa v q2 (va_up (va_up (va_up f2 27 (va_cpy (f 27) (f2 27) (0 : Int32).toNatClampNeg (0 : Int32).toNatClampNeg (30 : Int32).toNatClampNeg)) 28 (va_cpy (f 28) (f2 28) (0 : Int32).toNatClampNeg (0 : Int32).toNatClampNeg (30 : Int32).toNatClampNeg)) 29 (va_cpy (f 29) (f2 29) (0 : Int32).toNatClampNeg (0 : Int32).toNatClampNeg (30 : Int32).toNatClampNeg)) (va_up v2 8 0)) H := hP
  have hD : va_D A (fz_W2 k q f pa v q2 (va_up (va_up (va_up f2 27 (va_cpy (f 27) (f2 27) (0 : Int32).toNatClampNeg (0 : Int32).toNatClampNeg (30 : Int32).toNatClampNeg)) 28 (va_cpy (f 28) (f2 28) (0 : Int32).toNatClampNeg (0 : Int32).toNatClampNeg (30 : Int32).toNatClampNeg)) 29 (va_cpy (f 29) (f2 29) (0 : Int32).toNatClampNeg (0 : Int32).toNatClampNeg (30 : Int32).toNatClampNeg)) (va_up v2 8 0)) := hD
  refine lv_aload_n hx hb dX5_takeOver_53 rfl (lv_at hl 1 rfl) ?_
  refine va_get (D := D) (ci := 9) (v := .ref (q 30)) (C := RX5) (T := TX5) (N := 5) hx hb hts (fun w9 h9 => fz_m (fin_X5 w9 h9)) hown hK hP 26 rfl rfl 4 (by decide) (hts _ (fz_m fm_330)) (fun _ h9 => h9) rfl dX5_takeOver_54 ?_
  refine lv_iconst (v := 0) hx hb dX5_takeOver_57 (by decide) ?_
  refine lv_aload_n hx hb dX5_takeOver_58 rfl (lv_at hl 0 rfl) ?_
  refine va_get (D := D) (ci := 9) (v := .ref (q2 30)) (C := RX5) (T := TX5) (N := 5) hx hb hts (fun w9 h9 => fz_m (fin_X5 w9 h9)) hown hK hP 64 rfl rfl 4 (by decide) (hts _ (fz_m fm_330)) (fun _ h9 => h9) rfl dX5_takeOver_59 ?_
  refine lv_iconst (v := 0) hx hb dX5_takeOver_62 (by decide) ?_
  refine lv_bipush (v := 30) hx hb dX5_takeOver_63 (by decide) ?_
  refine va_copyi hx hb (hml.trans hl.1.symm) hown (hts _ (fz_m fm_408)) (hts _ (fz_m fm_254)) (hts _ (fz_m fm_255)) (hts _ (fz_m fm_256)) hK hP hD hS 30 68 0 0 rfl rfl rfl rfl rfl (by decide) (by decide) (by decide) (by decide) (by decide) (fun _ _ => rfl) (Nat.le_of_ble_eq_true rfl) (Nat.le_of_ble_eq_true rfl) dX5_takeOver_65 (fun H locs hP hD hS => ?_)
  have hP : va_P D vwCl (fz_W2 k q f pa v q2 (va_up (va_up (va_up (va_up f2 27 (va_cpy (f 27) (f2 27) (0 : Int32).toNatClampNeg (0 : Int32).toNatClampNeg (30 : Int32).toNatClampNeg)) 28 (va_cpy (f 28) (f2 28) (0 : Int32).toNatClampNeg (0 : Int32).toNatClampNeg (30 : Int32).toNatClampNeg)) 29 (va_cpy (f 29) (f2 29) (0 : Int32).toNatClampNeg (0 : Int32).toNatClampNeg (30 : Int32).toNatClampNeg)) 30 (va_cpy (f 30) (f2 30) (0 : Int32).toNatClampNeg (0 : Int32).toNatClampNeg (30 : Int32).toNatClampNeg)) (va_up v2 8 0)) H := hP
  have hD : va_D A (fz_W2 k q f pa v q2 (va_up (va_up (va_up (va_up f2 27 (va_cpy (f 27) (f2 27) (0 : Int32).toNatClampNeg (0 : Int32).toNatClampNeg (30 : Int32).toNatClampNeg)) 28 (va_cpy (f 28) (f2 28) (0 : Int32).toNatClampNeg (0 : Int32).toNatClampNeg (30 : Int32).toNatClampNeg)) 29 (va_cpy (f 29) (f2 29) (0 : Int32).toNatClampNeg (0 : Int32).toNatClampNeg (30 : Int32).toNatClampNeg)) 30 (va_cpy (f 30) (f2 30) (0 : Int32).toNatClampNeg (0 : Int32).toNatClampNeg (30 : Int32).toNatClampNeg)) (va_up v2 8 0)) := hD
  exact fz_vret hx hb hr hlocks hS dX5_takeOver_68 ((va_up (va_up (va_up (va_up f2 27 (va_cpy (f 27) (f2 27) (0 : Int32).toNatClampNeg (0 : Int32).toNatClampNeg (30 : Int32).toNatClampNeg)) 28 (va_cpy (f 28) (f2 28) (0 : Int32).toNatClampNeg (0 : Int32).toNatClampNeg (30 : Int32).toNatClampNeg)) 29 (va_cpy (f 29) (f2 29) (0 : Int32).toNatClampNeg (0 : Int32).toNatClampNeg (30 : Int32).toNatClampNeg)) 30 (va_cpy (f 30) (f2 30) (0 : Int32).toNatClampNeg (0 : Int32).toNatClampNeg (30 : Int32).toNatClampNeg)), (va_up v2 8 0)) trivial hP (Nat.le_of_ble_eq_true rfl) (Nat.le_of_ble_eq_true rfl)

set_option maxHeartbeats 4000000 in
set_option maxRecDepth 100000 in
theorem c_toState (l : Launch) (A : Nat → Prop) (D : va_G) (k : Nat → ClassId) (q : Nat → Nat) (f : Nat → Nat → Int32) (pa : Nat → Option Nat) (v : Nat → Int32) (q2 : Nat → Nat) (f2 : Nat → Nat → Int32) (v2 : Nat → Int32) (g_v_1 : v 1 = 1) (g_v_2 : v 2 = 1) (g_v_3 : v 3 = 0) (g_v_4 : v 4 = 0) (g_v_5 : v 5 = 0) (g_v_6 : v 6 = 0) (g_v_7 : v 7 = 0) (g_v_8 : v 8 = 0) (g_v_0 : v 0 = 3)  :
    Met l yX7_takeOver (fz_ws yX7_takeOver cX7_takeOver 2 none) { frames := 36, cells := 0, slots := 0, locals := 480 } (va_Pc [.ref (q2 0), .ref (q 0)] (fz_PC A D (fz_tys k) (fz_W2 k q f pa v q2 f2 v2))) (fz_QV D A (fun (u : (Nat → Nat → Int32) × (Nat → Int32)) => fz_W2 k q f pa v q2 u.1 u.2) (fun (_ : (Nat → Nat → Int32) × (Nat → Int32)) => True)) 0 0 A := by
  refine fz_of (by decide +kernel) (Nat.le_of_ble_eq_true rfl) ?_
  intro p e s m below meth c hx hb hr hml hown hlocks hts hin hA hP hK hD hG hS ls hl
  have hown : s.vm.findClass RX7 = some m.cls := hown
  have S0 : CallFix p m c cX7_takeOver 2 s [.ref (q2 0), .ref (q 0)].toArray (fz_ws yX7_takeOver cX7_takeOver 2 none) RX7 := ⟨hx, hb, hml, hown, hts⟩
  have hl : lv_has ls 2 [(0, .ref (q2 0)), (1, .ref (q 0))] := hl
  refine lv_aload_n hx hb dX7_takeOver_0 rfl (lv_at hl 0 rfl) ?_
  refine va_get (D := D) (ci := 11) (v := .ref (q2 1)) (C := RX7) (T := TX7) (N := 6) hx hb hts (fun w9 h9 => fz_m (fin_X7 w9 h9)) hown hK hP 38 rfl rfl 0 (by decide) (hts _ (fz_m fm_90)) (fun _ h9 => h9) rfl dX7_takeOver_1 ?_
  refine lv_aload_n hx hb dX7_takeOver_4 rfl (lv_at hl 1 rfl) ?_
  refine va_get (D := D) (ci := 11) (v := .ref (q 1)) (C := RX7) (T := TX7) (N := 6) hx hb hts (fun w9 h9 => fz_m (fin_X7 w9 h9)) hown hK hP 0 rfl rfl 0 (by decide) (hts _ (fz_m fm_90)) (fun _ h9 => h9) rfl dX7_takeOver_5 ?_
  refine fz_cVv (As := [.ref (q 1)]) (rest := []) S0 (c_toTree l A D k q f pa v q2 f2 v2 g_v_1 g_v_2) (fz_cwV (C := RX8) 1 hts fm_409 fm_410 fm_411 fm_412 fm_15 rfl rfl ⟨by decide, by decide, by decide +kernel⟩ ⟨Nat.le_of_ble_eq_true rfl, Nat.le_of_ble_eq_true rfl⟩) (va_recv hK hP (ci := 12) (q0 := 39) rfl rfl) (fun _ h9 => h9) (fun a9 h9 => hA a9 (Nat.le_trans hS.1 h9)) hG hS hP hK hD rfl hl.1 rfl (Nat.le_of_ble_eq_true rfl) dX7_takeOver_8 ⟨Nat.le_of_ble_eq_true rfl, Nat.le_of_ble_eq_true rfl⟩ (fun u_1 H locs hw hz1 hk1 hP hS => ?_)
  have hP : va_P D vwCl (fz_W2 k q f pa v q2 u_1.1 u_1.2) H := hP
  have hD : va_D A (fz_W2 k q f pa v q2 u_1.1 u_1.2) := fz_Dsame hD rfl
  refine lv_aload_n hx hb dX7_takeOver_11 rfl (lv_at hl 0 rfl) ?_
  refine va_get (D := D) (ci := 11) (v := .ref (q2 10)) (C := RX7) (T := TX7) (N := 6) hx hb hts (fun w9 h9 => fz_m (fin_X7 w9 h9)) hown hK hP 38 rfl rfl 1 (by decide) (hts _ (fz_m fm_94)) (fun _ h9 => h9) rfl dX7_takeOver_12 ?_
  refine lv_aload_n hx hb dX7_takeOver_15 rfl (lv_at hl 1 rfl) ?_
  refine va_get (D := D) (ci := 11) (v := .ref (q 10)) (C := RX7) (T := TX7) (N := 6) hx hb hts (fun w9 h9 => fz_m (fin_X7 w9 h9)) hown hK hP 0 rfl rfl 1 (by decide) (hts _ (fz_m fm_94)) (fun _ h9 => h9) rfl dX7_takeOver_16 ?_
  refine fz_cVv (As := [.ref (q 10)]) (rest := []) S0 (c_toRules l A D k q f pa v q2 u_1.1 u_1.2) (fz_cwV (C := RX6) 1 hts fm_413 fm_414 fm_415 fm_416 fm_54 rfl rfl ⟨by decide, by decide, by decide +kernel⟩ ⟨Nat.le_of_ble_eq_true rfl, Nat.le_of_ble_eq_true rfl⟩) (va_recv hK hP (ci := 10) (q0 := 48) rfl rfl) (fun _ h9 => h9) (fun a9 h9 => hA a9 (Nat.le_trans hS.1 h9)) hG hS hP hK hD rfl hl.1 rfl (Nat.le_of_ble_eq_true rfl) dX7_takeOver_19 ⟨Nat.le_of_ble_eq_true rfl, Nat.le_of_ble_eq_true rfl⟩ (fun u_2 H locs hw hz1 hk1 hP hS => ?_)
  have hP : va_P D vwCl (fz_W2 k q f pa v q2 u_2.1 u_2.2) H := hP
  have hD : va_D A (fz_W2 k q f pa v q2 u_2.1 u_2.2) := fz_Dsame hD rfl
  refine lv_aload_n hx hb dX7_takeOver_22 rfl (lv_at hl 0 rfl) ?_
  refine va_get (D := D) (ci := 11) (v := .ref (q2 14)) (C := RX7) (T := TX7) (N := 6) hx hb hts (fun w9 h9 => fz_m (fin_X7 w9 h9)) hown hK hP 38 rfl rfl 2 (by decide) (hts _ (fz_m fm_347)) (fun _ h9 => h9) rfl dX7_takeOver_23 ?_
  refine lv_aload_n hx hb dX7_takeOver_26 rfl (lv_at hl 1 rfl) ?_
  refine va_get (D := D) (ci := 11) (v := .ref (q 14)) (C := RX7) (T := TX7) (N := 6) hx hb hts (fun w9 h9 => fz_m (fin_X7 w9 h9)) hown hK hP 0 rfl rfl 2 (by decide) (hts _ (fz_m fm_347)) (fun _ h9 => h9) rfl dX7_takeOver_27 ?_
  refine fz_cVv (As := [.ref (q 14)]) (rest := []) S0 (c_toCont l A D k q f pa v q2 u_2.1 u_2.2 g_v_3 g_v_4 g_v_5 g_v_6) (fz_cwV (C := RX0) 1 hts fm_417 fm_418 fm_419 fm_420 fm_26 rfl rfl ⟨by decide, by decide, by decide +kernel⟩ ⟨Nat.le_of_ble_eq_true rfl, Nat.le_of_ble_eq_true rfl⟩) (va_recv hK hP (ci := 4) (q0 := 52) rfl rfl) (fun _ h9 => h9) (fun a9 h9 => hA a9 (Nat.le_trans hS.1 h9)) hG hS hP hK hD rfl hl.1 rfl (Nat.le_of_ble_eq_true rfl) dX7_takeOver_30 ⟨Nat.le_of_ble_eq_true rfl, Nat.le_of_ble_eq_true rfl⟩ (fun u_3 H locs hw hz1 hk1 hP hS => ?_)
  have hP : va_P D vwCl (fz_W2 k q f pa v q2 u_3.1 u_3.2) H := hP
  have hD : va_D A (fz_W2 k q f pa v q2 u_3.1 u_3.2) := fz_Dsame hD rfl
  refine lv_aload_n hx hb dX7_takeOver_33 rfl (lv_at hl 0 rfl) ?_
  refine va_get (D := D) (ci := 11) (v := .ref (q2 23)) (C := RX7) (T := TX7) (N := 6) hx hb hts (fun w9 h9 => fz_m (fin_X7 w9 h9)) hown hK hP 38 rfl rfl 3 (by decide) (hts _ (fz_m fm_353)) (fun _ h9 => h9) rfl dX7_takeOver_34 ?_
  refine lv_aload_n hx hb dX7_takeOver_37 rfl (lv_at hl 1 rfl) ?_
  refine va_get (D := D) (ci := 11) (v := .ref (q 23)) (C := RX7) (T := TX7) (N := 6) hx hb hts (fun w9 h9 => fz_m (fin_X7 w9 h9)) hown hK hP 0 rfl rfl 3 (by decide) (hts _ (fz_m fm_353)) (fun _ h9 => h9) rfl dX7_takeOver_38 ?_
  refine fz_cVv (As := [.ref (q 23)]) (rest := []) S0 (c_toCopies l A D k q f pa v q2 u_3.1 u_3.2 g_v_7) (fz_cwV (C := RX1) 1 hts fm_421 fm_422 fm_423 fm_424 fm_32 rfl rfl ⟨by decide, by decide, by decide +kernel⟩ ⟨Nat.le_of_ble_eq_true rfl, Nat.le_of_ble_eq_true rfl⟩) (va_recv hK hP (ci := 5) (q0 := 61) rfl rfl) (fun _ h9 => h9) (fun a9 h9 => hA a9 (Nat.le_trans hS.1 h9)) hG hS hP hK hD rfl hl.1 rfl (Nat.le_of_ble_eq_true rfl) dX7_takeOver_41 ⟨Nat.le_of_ble_eq_true rfl, Nat.le_of_ble_eq_true rfl⟩ (fun u_4 H locs hw hz1 hk1 hP hS => ?_)
  have hP : va_P D vwCl (fz_W2 k q f pa v q2 u_4.1 u_4.2) H := hP
  have hD : va_D A (fz_W2 k q f pa v q2 u_4.1 u_4.2) := fz_Dsame hD rfl
  refine lv_aload_n hx hb dX7_takeOver_44 rfl (lv_at hl 0 rfl) ?_
  refine va_get (D := D) (ci := 11) (v := .ref (q2 26)) (C := RX7) (T := TX7) (N := 6) hx hb hts (fun w9 h9 => fz_m (fin_X7 w9 h9)) hown hK hP 38 rfl rfl 4 (by decide) (hts _ (fz_m fm_88)) (fun _ h9 => h9) rfl dX7_takeOver_45 ?_
  refine lv_aload_n hx hb dX7_takeOver_48 rfl (lv_at hl 1 rfl) ?_
  refine va_get (D := D) (ci := 11) (v := .ref (q 26)) (C := RX7) (T := TX7) (N := 6) hx hb hts (fun w9 h9 => fz_m (fin_X7 w9 h9)) hown hK hP 0 rfl rfl 4 (by decide) (hts _ (fz_m fm_88)) (fun _ h9 => h9) rfl dX7_takeOver_49 ?_
  refine fz_cVv (As := [.ref (q 26)]) (rest := []) S0 (c_toReq l A D k q f pa v q2 u_4.1 u_4.2 g_v_8) (fz_cwV (C := RX5) 1 hts fm_425 fm_426 fm_427 fm_428 fm_177 rfl rfl ⟨by decide, by decide, by decide +kernel⟩ ⟨Nat.le_of_ble_eq_true rfl, Nat.le_of_ble_eq_true rfl⟩) (va_recv hK hP (ci := 9) (q0 := 64) rfl rfl) (fun _ h9 => h9) (fun a9 h9 => hA a9 (Nat.le_trans hS.1 h9)) hG hS hP hK hD rfl hl.1 rfl (Nat.le_of_ble_eq_true rfl) dX7_takeOver_52 ⟨Nat.le_of_ble_eq_true rfl, Nat.le_of_ble_eq_true rfl⟩ (fun u_5 H locs hw hz1 hk1 hP hS => ?_)
  have hP : va_P D vwCl (fz_W2 k q f pa v q2 u_5.1 u_5.2) H := hP
  have hD : va_D A (fz_W2 k q f pa v q2 u_5.1 u_5.2) := fz_Dsame hD rfl
  refine lv_aload_n hx hb dX7_takeOver_55 rfl (lv_at hl 0 rfl) ?_
  refine lv_aload_n hx hb dX7_takeOver_56 rfl (lv_at hl 1 rfl) ?_
  refine va_get (D := D) (ci := 11) (v := .int (v 0)) (C := RX7) (T := TX7) (N := 6) hx hb hts (fun w9 h9 => fz_m (fin_X7 w9 h9)) hown hK hP 0 rfl rfl 5 (by decide) (hts _ (fz_m fm_359)) (fun _ h9 => h9) rfl dX7_takeOver_57 ?_
  refine fz_I (y := 3) g_v_0 ?_
  refine va_put (D := D) (ci := 11) (v := .int 3) (ty := .int) (C := RX7) (T := TX7) (N := 6) hx hb hts (fun w9 h9 => fz_m (fin_X7 w9 h9)) tyX7 tyX7_ok nmX7 hown hK hP hD hS 38 rfl rfl 5 (by decide) (hts _ (fz_m fm_359)) (fun _ h9 => h9) rfl (by decide +kernel) rfl rfl (Nat.le_of_ble_eq_true rfl) dX7_takeOver_60 (fun H locs hP hD hS => ?_)
  have hP : va_P D vwCl (fz_W2 k q f pa v q2 u_5.1 (va_up u_5.2 0 3)) H := hP
  have hD : va_D A (fz_W2 k q f pa v q2 u_5.1 (va_up u_5.2 0 3)) := hD
  exact fz_vret hx hb hr hlocks hS dX7_takeOver_63 (u_5.1, (va_up u_5.2 0 3)) trivial hP (Nat.le_of_ble_eq_true rfl) (Nat.le_of_ble_eq_true rfl)

set_option maxHeartbeats 4000000 in
set_option maxRecDepth 100000 in
theorem c_remember (l : Launch) (A : Nat → Prop) (D : va_G) (k : Nat → ClassId) (q : Nat → Nat) (f : Nat → Nat → Int32) (pa : Nat → Option Nat) (v : Nat → Int32) (g_v_9 : v 9 = 0) (g_pa_1 : pa 1 = none) (g_v_1 : v 1 = 1) (g_v_2 : v 2 = 1) (g_v_3 : v 3 = 0) (g_v_4 : v 4 = 0) (g_v_5 : v 5 = 0) (g_v_6 : v 6 = 0) (g_v_7 : v 7 = 0) (g_v_8 : v 8 = 0) (g_v_0 : v 0 = 3) (g_v_10 : v 10 = 0)  :
    Met l yX9_remember (fz_ws yX9_remember cX9_remember 1 none) { frames := 48, cells := 31, slots := 1699, locals := 640 } (va_Pc [.ref (q 31)] (fz_PC A D (fz_tys k) (fz_WC k q f pa v))) (fz_QV D A (fun (u : Nat → Option Nat) => fz_WC k q f u (va_up (va_up v 9 1) 10 1)) (fun (_ : Nat → Option Nat) => True)) 31 1699 A := by
  refine fz_of (by decide +kernel) (Nat.le_of_ble_eq_true rfl) ?_
  intro p e s m below meth c hx hb hr hml hown hlocks hts hin hA hP hK hD hG hS ls hl
  have hown : s.vm.findClass RX9 = some m.cls := hown
  have S0 : CallFix p m c cX9_remember 1 s [.ref (q 31)].toArray (fz_ws yX9_remember cX9_remember 1 none) RX9 := ⟨hx, hb, hml, hown, hts⟩
  have hl : lv_has ls 1 [(0, .ref (q 31))] := hl
  refine lv_aload_n hx hb dX9_remember_0 rfl (lv_at hl 0 rfl) ?_
  refine lv_aload_n hx hb dX9_remember_1 rfl (lv_at hl 0 rfl) ?_
  refine va_get (D := D) (ci := 13) (v := .int (v 9)) (C := RX9) (T := TX9) (N := 8) hx hb hts (fun w9 h9 => fz_m (fin_X9 w9 h9)) hown hK hP 31 rfl rfl 2 (by decide) (hts _ (fz_m fm_209)) (fun _ h9 => h9) rfl dX9_remember_2 ?_
  refine fz_I (y := 0) g_v_9 ?_
  refine lv_iconst (v := 1) hx hb dX9_remember_5 (by decide) ?_
  refine lv_iadd hx hb dX9_remember_6 ?_
  refine fz_I (y := 1) (by decide) ?_
  refine lv_bipush (v := 8) hx hb dX9_remember_7 (by decide) ?_
  refine lv_irem hx hb dX9_remember_9 (by decide) ?_
  refine fz_I (y := 1) (by decide) ?_
  refine va_put (D := D) (ci := 13) (v := .int 1) (ty := .int) (C := RX9) (T := TX9) (N := 8) hx hb hts (fun w9 h9 => fz_m (fin_X9 w9 h9)) tyX9 tyX9_ok nmX9 hown hK hP hD hS 31 rfl rfl 2 (by decide) (hts _ (fz_m fm_209)) (fun _ h9 => h9) rfl (by decide +kernel) rfl rfl (Nat.le_of_ble_eq_true rfl) dX9_remember_10 (fun H locs hP hD hS => ?_)
  have hP : va_P D vwCl (fz_WC k q f pa (va_up v 9 1)) H := hP
  have hD : va_D A (fz_WC k q f pa (va_up v 9 1)) := hD
  refine lv_aload_n hx hb dX9_remember_13 rfl (lv_at hl 0 rfl) ?_
  refine va_get (D := D) (ci := 13) (v := .ref (q 32)) (C := RX9) (T := TX9) (N := 8) hx hb hts (fun w9 h9 => fz_m (fin_X9 w9 h9)) hown hK hP 31 rfl rfl 1 (by decide) (hts _ (fz_m fm_208)) (fun _ h9 => h9) rfl dX9_remember_14 ?_
  refine lv_aload_n hx hb dX9_remember_17 rfl (lv_at hl 0 rfl) ?_
  refine va_get (D := D) (ci := 13) (v := .int ((va_up v 9 1) 9)) (C := RX9) (T := TX9) (N := 8) hx hb hts (fun w9 h9 => fz_m (fin_X9 w9 h9)) hown hK hP 31 rfl rfl 2 (by decide) (hts _ (fz_m fm_209)) (fun _ h9 => h9) rfl dX9_remember_18 ?_
  refine fz_I (y := 1) rfl ?_
  refine va_aldq hx hb hK hP 32 3 rfl rfl (fz_vin (by decide)) dX9_remember_21 ?_
  refine fz_V (y := .null) (by show va_rf (pa 1) = _; rw [g_pa_1]; rfl) ?_
  refine lv_ifnonnullN hx hb dX9_remember_22 ?_
  refine lv_aload_n hx hb dX9_remember_25 rfl (lv_at hl 0 rfl) ?_
  refine va_get (D := D) (ci := 13) (v := .ref (q 32)) (C := RX9) (T := TX9) (N := 8) hx hb hts (fun w9 h9 => fz_m (fin_X9 w9 h9)) hown hK hP 31 rfl rfl 1 (by decide) (hts _ (fz_m fm_208)) (fun _ h9 => h9) rfl dX9_remember_26 ?_
  refine lv_aload_n hx hb dX9_remember_29 rfl (lv_at hl 0 rfl) ?_
  refine va_get (D := D) (ci := 13) (v := .int ((va_up v 9 1) 9)) (C := RX9) (T := TX9) (N := 8) hx hb hts (fun w9 h9 => fz_m (fin_X9 w9 h9)) hown hK hP 31 rfl rfl 2 (by decide) (hts _ (fz_m fm_209)) (fun _ h9 => h9) rfl dX9_remember_30 ?_
  refine fz_I (y := 1) rfl ?_
  refine va_new (ci := 11) (fs := [.null, .null, .null, .null, .null, .int 0]) (C := RX7) (T := TX7) (N := 6) hx hb hts (fun w9 h9 => fz_m (fin_X7 w9 h9)) tyX7 tyX7_ok hown (hts _ (fz_m fm_377)) (hts _ (fz_m fm_378)) (hts _ (fz_m fm_172)) hK hP hD hS hA rfl (fun j hj => by rcases (show j = 0 ∨ j = 1 ∨ j = 2 ∨ j = 3 ∨ j = 4 ∨ j = 5 by omega) with rfl | rfl | rfl | rfl | rfl | rfl <;> rfl) (Nat.le_of_ble_eq_true rfl) (Nat.le_of_ble_eq_true rfl) dX9_remember_33 (fun s_1 H hP hD hS => ?_)
  refine lv_dup hx hb dX9_remember_36 rfl ?_
  have hPc : va_P D vwCl [(s_1, .inr (11, [.null, .null, .null, .null, .null, .int 0]))] H := fz_right hP
  have hDc : va_D (va_A [(s_1, .inr (11, [.null, .null, .null, .null, .null, .int 0]))] H.size) [(s_1, .inr (11, [.null, .null, .null, .null, .null, .int 0]))] := (fz_rightD hD).self
  have hFc := va_free (wc := [(s_1, .inr (11, [.null, .null, .null, .null, .null, .int 0]))]) hD hS hA [38] rfl
  refine fz_kN (As := []) (rest := [.ref s_1, .int 1, .ref (q 32)]) S0 (k_State l (va_A [(s_1, .inr (11, [.null, .null, .null, .null, .null, .int 0]))] H.size) D k s_1) ⟨va_cnB 0 hts (fz_g fm_379) rfl rfl rfl (hG.2.2.2.2.1 _ fm_380 rfl) (hts _ (fz_m fm_172)) ⟨by decide, by decide, by decide +kernel⟩ ⟨Nat.le_of_ble_eq_true rfl, Nat.le_of_ble_eq_true rfl⟩, rfl, hts _ (fz_m fm_381)⟩ hFc (fun a9 h9 => Or.inr h9) hG hS hPc hK hDc rfl hl.1 rfl (Nat.le_of_ble_eq_true rfl) dX9_remember_37 ⟨Nat.le_of_ble_eq_true rfl, Nat.le_of_ble_eq_true rfl⟩ (fun u_1 H locs hw hz1 hk1 hP1 hD1 hS => ?_)
  obtain ⟨hP2, hD2⟩ := va_join (wr := fz_WC k q f pa (va_up v 9 1)) (w1 := fz_WS k u_1.1 u_1.2 (fun _ => none) fz_v0) hP hD [38] [0, 1, 2, 3, 4, 5, 6, 7, 8, 9, 10, 11, 12, 13, 14, 15, 16, 17, 18, 19, 20, 21, 22, 23, 24, 25, 26, 27, 28, 29, 30, 31, 32, 33, 34, 35, 36, 37] rfl rfl (by decide) (by decide) hk1 hFc hP1 hD1
  obtain ⟨hq_1, -⟩ := hw
  subst hq_1
  have hP : va_P D vwCl (fz_W2 k q f pa (va_up v 9 1) u_1.1 u_1.2 fz_v0) H := hP2
  have hD : va_D A (fz_W2 k q f pa (va_up v 9 1) u_1.1 u_1.2 fz_v0) := hD2
  refine va_astq hx hb hK hP hD hS 32 3 38 11 rfl rfl rfl rfl (fz_vin (by decide)) dX9_remember_40 (fun H locs hP hD hS => ?_)
  have hP : va_P D vwCl (fz_W2 k q f (va_up pa 1 (some (u_1.1 0))) (va_up v 9 1) u_1.1 u_1.2 fz_v0) H := hP
  have hD : va_D A (fz_W2 k q f (va_up pa 1 (some (u_1.1 0))) (va_up v 9 1) u_1.1 u_1.2 fz_v0) := hD
  refine lv_aload_n hx hb dX9_remember_41 rfl (lv_at hl 0 rfl) ?_
  refine va_get (D := D) (ci := 13) (v := .ref (q 32)) (C := RX9) (T := TX9) (N := 8) hx hb hts (fun w9 h9 => fz_m (fin_X9 w9 h9)) hown hK hP 31 rfl rfl 1 (by decide) (hts _ (fz_m fm_208)) (fun _ h9 => h9) rfl dX9_remember_42 ?_
  refine lv_aload_n hx hb dX9_remember_45 rfl (lv_at hl 0 rfl) ?_
  refine va_get (D := D) (ci := 13) (v := .int ((va_up v 9 1) 9)) (C := RX9) (T := TX9) (N := 8) hx hb hts (fun w9 h9 => fz_m (fin_X9 w9 h9)) hown hK hP 31 rfl rfl 2 (by decide) (hts _ (fz_m fm_209)) (fun _ h9 => h9) rfl dX9_remember_46 ?_
  refine fz_I (y := 1) rfl ?_
  refine va_aldq hx hb hK hP 32 3 rfl rfl (fz_vin (by decide)) dX9_remember_49 ?_
  refine fz_V (y := .ref (u_1.1 0)) rfl ?_
  refine lv_aload_n hx hb dX9_remember_50 rfl (lv_at hl 0 rfl) ?_
  refine va_get (D := D) (ci := 13) (v := .ref (q 0)) (C := RX9) (T := TX9) (N := 8) hx hb hts (fun w9 h9 => fz_m (fin_X9 w9 h9)) hown hK hP 31 rfl rfl 0 (by decide) (hts _ (fz_m fm_9)) (fun _ h9 => h9) rfl dX9_remember_51 ?_
  refine fz_cVv (As := [.ref (q 0)]) (rest := []) S0 (c_toState l A D k q f (va_up pa 1 (some (u_1.1 0))) (va_up v 9 1) u_1.1 u_1.2 fz_v0 g_v_1 g_v_2 g_v_3 g_v_4 g_v_5 g_v_6 g_v_7 g_v_8 g_v_0) (fz_cwV (C := RX7) 1 hts fm_429 fm_430 fm_431 fm_432 fm_172 rfl rfl ⟨by decide, by decide, by decide +kernel⟩ ⟨Nat.le_of_ble_eq_true rfl, Nat.le_of_ble_eq_true rfl⟩) (va_recv hK hP (ci := 11) (q0 := 38) rfl rfl) (fun _ h9 => h9) (fun a9 h9 => hA a9 (Nat.le_trans hS.1 h9)) hG hS hP hK hD rfl hl.1 rfl (Nat.le_of_ble_eq_true rfl) dX9_remember_54 ⟨Nat.le_of_ble_eq_true rfl, Nat.le_of_ble_eq_true rfl⟩ (fun u_2 H locs hw hz1 hk1 hP hS => ?_)
  have hP : va_P D vwCl (fz_W2 k q f (va_up pa 1 (some (u_1.1 0))) (va_up v 9 1) u_1.1 u_2.1 u_2.2) H := hP
  have hD : va_D A (fz_W2 k q f (va_up pa 1 (some (u_1.1 0))) (va_up v 9 1) u_1.1 u_2.1 u_2.2) := fz_Dsame hD rfl
  refine lv_aload_n hx hb dX9_remember_57 rfl (lv_at hl 0 rfl) ?_
  refine lv_aload_n hx hb dX9_remember_58 rfl (lv_at hl 0 rfl) ?_
  refine va_get (D := D) (ci := 13) (v := .int ((va_up v 9 1) 10)) (C := RX9) (T := TX9) (N := 8) hx hb hts (fun w9 h9 => fz_m (fin_X9 w9 h9)) hown hK hP 31 rfl rfl 3 (by decide) (hts _ (fz_m fm_210)) (fun _ h9 => h9) rfl dX9_remember_59 ?_
  refine fz_I (y := 0) g_v_10 ?_
  refine lv_iconst (v := 1) hx hb dX9_remember_62 (by decide) ?_
  refine lv_iadd hx hb dX9_remember_63 ?_
  refine fz_I (y := 1) (by decide) ?_
  refine lv_bipush (v := 8) hx hb dX9_remember_64 (by decide) ?_
  refine va_mmin hx hb (hml.trans hl.1.symm) hown (hts _ (fz_m fm_433)) (hts _ (fz_m fm_434)) (hts _ (fz_m fm_44)) (hts _ (fz_m fm_435)) (Nat.le_of_ble_eq_true rfl) (Nat.le_of_ble_eq_true rfl) (Nat.le_of_ble_eq_true rfl) (Nat.le_of_ble_eq_true rfl) dX9_remember_66 ?_
  refine fz_I (y := 1) (by decide) ?_
  refine va_put (D := D) (ci := 13) (v := .int 1) (ty := .int) (C := RX9) (T := TX9) (N := 8) hx hb hts (fun w9 h9 => fz_m (fin_X9 w9 h9)) tyX9 tyX9_ok nmX9 hown hK hP hD hS 31 rfl rfl 3 (by decide) (hts _ (fz_m fm_210)) (fun _ h9 => h9) rfl (by decide +kernel) rfl rfl (Nat.le_of_ble_eq_true rfl) dX9_remember_69 (fun H locs hP hD hS => ?_)
  have hP : va_P D vwCl (fz_W2 k q f (va_up pa 1 (some (u_1.1 0))) (va_up (va_up v 9 1) 10 1) u_1.1 u_2.1 u_2.2) H := hP
  have hD : va_D A (fz_W2 k q f (va_up pa 1 (some (u_1.1 0))) (va_up (va_up v 9 1) 10 1) u_1.1 u_2.1 u_2.2) := hD
  have hP : va_P D vwCl (fz_WC k q f (va_up pa 1 (some (u_1.1 0))) (va_up (va_up v 9 1) 10 1)) H := fz_left hP
  exact fz_vret hx hb hr hlocks hS dX9_remember_72 (va_up pa 1 (some (u_1.1 0))) trivial hP (Nat.le_of_ble_eq_true rfl) (Nat.le_of_ble_eq_true rfl)

set_option maxHeartbeats 4000000 in
set_option maxRecDepth 100000 in
theorem c_add (l : Launch) (hl0 : l.stackTraces = false) (A : Nat → Prop) (D : va_G) (k : Nat → ClassId) (q : Nat → Nat) (f : Nat → Nat → Int32) (pa : Nat → Option Nat) (v : Nat → Int32) (p0 p1 p2 p3 p4 : Int32) (g_v_1 : v 1 = 1) (g_f_4_0 : f 4 0 = 0) (g_v_9 : v 9 = 0) (g_v_2 : v 2 = 1) (g_v_3 : v 3 = 0) (g_v_4 : v 4 = 0) (g_v_5 : v 5 = 0) (g_v_6 : v 6 = 0) (g_v_7 : v 7 = 0) (g_v_8 : v 8 = 0) (g_v_0 : v 0 = 3) (g_v_10 : v 10 = 0) (g_pa_1 : pa 1 = none) (g_f_6_0 : f 6 0 = 0) (g_f_5_0 : f 5 0 = (-1))  :
    vx_Met l yX9_add (fz_ws yX9_add cX9_add 6 (some .int)) { frames := 60, cells := 32, slots := 1705, locals := 800 } (va_Pc [.ref (q 31), .int p0, .int p1, .int p2, .int p3, .int p4] (fz_PC A D (fz_tys k) (fz_WC k q f pa v))) (fz_QI D A (fun (_ : Unit) => ([] : va_W)) (fun (r : Int32) (_ : Unit) => r = 1 ∧ (p0 = 0 ∧ ((1 ≤ p1 ∧ p1 ≤ 3) ∧ 0 ≤ p2 ∧ ((p1 = 1 ∧ p2 ≤ 0) ∨ (¬ (p1 = 1) ∧ p2 ≤ 20)) ∧ (p3 = (-1) ∨ ((0 ≤ p3 ∧ p3 ≤ 9999) ∧ (0 ≤ p4 ∧ p4 ≤ 9999) ∧ p3 ≤ p4)))))) (fz_XC (fun E => (E = "java/lang/IndexOutOfBoundsException" ∧ ¬ (p0 = 0)) ∨ (E = "java/lang/IllegalArgumentException" ∧ (p0 = 0 ∧ ¬ (((1 ≤ p1 ∧ p1 ≤ 3) ∧ 0 ≤ p2 ∧ ((p1 = 1 ∧ p2 ≤ 0) ∨ (¬ (p1 = 1) ∧ p2 ≤ 20)) ∧ (p3 = (-1) ∨ ((0 ≤ p3 ∧ p3 ≤ 9999) ∧ (0 ≤ p4 ∧ p4 ≤ 9999) ∧ p3 ≤ p4)))))) ∨ (E = "java/lang/IllegalStateException" ∧ False)) A) 32 1705 A := by
  refine fz_ofX (by decide +kernel) (Nat.le_of_ble_eq_true rfl) ?_
  intro p e s m below meth c hx hb hr hml hown hlocks hts ht hA hP hK hD hG hS ls hl
  have hown : s.vm.findClass RX9 = some m.cls := hown
  have S0 : CallFix p m c cX9_add 6 s [.ref (q 31), .int p0, .int p1, .int p2, .int p3, .int p4].toArray (fz_ws yX9_add cX9_add 6 (some .int)) RX9 := ⟨hx, hb, hml, hown, hts⟩
  have hl : lv_has ls 6 [(0, .ref (q 31)), (1, .int p0), (2, .int p1), (3, .int p2), (4, .int p3), (5, .int p4)] := hl
  refine lv_aload_n hx hb dX9_add_0 rfl (lv_at hl 0 rfl) ?_
  refine lv_iload_n hx hb dX9_add_1 rfl (lv_at hl 1 rfl) ?_
  refine fz_xVv (As := [.int p0]) (rest := []) S0 (c_reqNode l hl0 A D k q f pa v p0 g_v_1 g_f_4_0) (fz_cwV (C := RX9) 1 hts fm_100 fm_101 fm_102 fm_103 fm_6 rfl rfl ⟨by decide, by decide, by decide +kernel⟩ ⟨Nat.le_of_ble_eq_true rfl, Nat.le_of_ble_eq_true rfl⟩) (va_recv hK hP (ci := 13) (q0 := 31) rfl rfl) (fun _ h9 => h9) (fun a9 h9 => hA a9 (Nat.le_trans hS.1 h9)) hG hS hP hK hD rfl hl.1 rfl (Nat.le_of_ble_eq_true rfl) dX9_add_2 ⟨Nat.le_of_ble_eq_true rfl, Nat.le_of_ble_eq_true rfl⟩ ht hlocks (fun E hE => by obtain ⟨rfl, h9⟩ := hE; exact (Or.inl ⟨rfl, (fq_28 p0 h9)⟩)) ⟨Nat.le_of_ble_eq_true rfl, Nat.le_of_ble_eq_true rfl⟩ (fun u_1 H locs hw hz1 hk1 hP hS => ?_)
  have hP : va_P D vwCl (fz_WC k q f pa v) H := hP
  have hq_1 : p0 = 0 := hw
  obtain rfl : p0 = 0 := (fq_27 p0 hq_1)
  refine lv_aload_n hx hb dX9_add_5 rfl (lv_at hl 0 rfl) ?_
  refine va_get (D := D) (ci := 13) (v := .ref (q 0)) (C := RX9) (T := TX9) (N := 8) hx hb hts (fun w9 h9 => fz_m (fin_X9 w9 h9)) hown hK hP 31 rfl rfl 0 (by decide) (hts _ (fz_m fm_9)) (fun _ h9 => h9) rfl dX9_add_6 ?_
  refine va_get (D := D) (ci := 11) (v := .ref (q 1)) (C := RX7) (T := TX7) (N := 6) hx hb hts (fun w9 h9 => fz_m (fin_X7 w9 h9)) hown hK hP 0 rfl rfl 0 (by decide) (hts _ (fz_m fm_10)) (fun _ h9 => h9) rfl dX9_add_9 ?_
  refine va_get (D := D) (ci := 12) (v := .ref (q 4)) (C := RX8) (T := TX8) (N := 10) hx hb hts (fun w9 h9 => fz_m (fin_X8 w9 h9)) hown hK hP 1 rfl rfl 4 (by decide) (hts _ (fz_m fm_104)) (fun _ h9 => h9) rfl dX9_add_12 ?_
  refine lv_iload_n hx hb dX9_add_15 rfl (lv_at hl 1 rfl) ?_
  refine va_iald hx hb hK hP 4 0 rfl rfl (fz_vin (by decide)) dX9_add_16 ?_
  refine fz_I (y := 0) g_f_4_0 ?_
  refine lv_iload_n hx hb dX9_add_17 rfl (lv_at hl 2 rfl) ?_
  refine lv_iload_n hx hb dX9_add_18 rfl (lv_at hl 3 rfl) ?_
  refine lv_iload hx hb dX9_add_19 (lv_at hl 4 rfl) ?_
  refine lv_iload hx hb dX9_add_21 (lv_at hl 5 rfl) ?_
  refine fz_cSi (As := [.int 0, .int p1, .int p2, .int p3, .int p4]) (rest := []) S0 (c_fits l A D k q f pa v p1 p2 p3 p4) (fz_cwS 5 hts fm_436 fm_437 fm_438 fm_6 rfl rfl ⟨by decide, by decide, by decide +kernel⟩ ⟨Nat.le_of_ble_eq_true rfl, Nat.le_of_ble_eq_true rfl⟩) (fun _ h9 => h9) (fun a9 h9 => hA a9 (Nat.le_trans hS.1 h9)) hG hS hP hK hD rfl hl.1 rfl (Nat.le_of_ble_eq_true rfl) dX9_add_23 ⟨Nat.le_of_ble_eq_true rfl, Nat.le_of_ble_eq_true rfl⟩ (fun r_2 u_2 H locs hw hz1 hk1 hP hS => ?_)
  have hP : va_P D vwCl (fz_WC k q f pa v) H := hP
  rcases (show (r_2 = 1 ∧ ((1 ≤ p1 ∧ p1 ≤ 3) ∧ 0 ≤ p2 ∧ ((p1 = 1 ∧ p2 ≤ 0) ∨ (¬ (p1 = 1) ∧ p2 ≤ 20)) ∧ (p3 = (-1) ∨ ((0 ≤ p3 ∧ p3 ≤ 9999) ∧ (0 ≤ p4 ∧ p4 ≤ 9999) ∧ p3 ≤ p4)))) ∨ (r_2 = 0 ∧ ¬ (((1 ≤ p1 ∧ p1 ≤ 3) ∧ 0 ≤ p2 ∧ ((p1 = 1 ∧ p2 ≤ 0) ∨ (¬ (p1 = 1) ∧ p2 ≤ 20)) ∧ (p3 = (-1) ∨ ((0 ≤ p3 ∧ p3 ≤ 9999) ∧ (0 ≤ p4 ∧ p4 ≤ 9999) ∧ p3 ≤ p4))))) from hw) with ⟨rfl, hq_2⟩ | ⟨rfl, hq_2⟩
  · skip
    refine lv_if_ne (tgt := 39) hx hb dX9_add_26 (by decide) (fun c_3 => ?_) (fun c_3 => absurd c_3 (by decide))
    refine lv_aload_n hx hb dX9_add_39 rfl (lv_at hl 0 rfl) ?_
    refine va_get (D := D) (ci := 13) (v := .ref (q 0)) (C := RX9) (T := TX9) (N := 8) hx hb hts (fun w9 h9 => fz_m (fin_X9 w9 h9)) hown hK hP 31 rfl rfl 0 (by decide) (hts _ (fz_m fm_9)) (fun _ h9 => h9) rfl dX9_add_40 ?_
    refine va_get (D := D) (ci := 11) (v := .ref (q 1)) (C := RX7) (T := TX7) (N := 6) hx hb hts (fun w9 h9 => fz_m (fin_X7 w9 h9)) hown hK hP 0 rfl rfl 0 (by decide) (hts _ (fz_m fm_10)) (fun _ h9 => h9) rfl dX9_add_43 ?_
    refine va_get (D := D) (ci := 12) (v := .int (v 1)) (C := RX8) (T := TX8) (N := 10) hx hb hts (fun w9 h9 => fz_m (fin_X8 w9 h9)) hown hK hP 1 rfl rfl 0 (by decide) (hts _ (fz_m fm_439)) (fun _ h9 => h9) rfl dX9_add_46 ?_
    refine fz_I (y := 1) g_v_1 ?_
    refine lv_bipush (v := 40) hx hb dX9_add_49 (by decide) ?_
    refine lv_icmp_lt (tgt := 64) hx hb dX9_add_51 (by decide) (fun c_4 => ?_) (fun c_4 => absurd (by decide) c_4)
    refine lv_aload_n hx hb dX9_add_64 rfl (lv_at hl 0 rfl) ?_
    refine fz_cVv (As := []) (rest := []) S0 (c_remember l A D k q f pa v g_v_9 g_pa_1 g_v_1 g_v_2 g_v_3 g_v_4 g_v_5 g_v_6 g_v_7 g_v_8 g_v_0 g_v_10) (fz_cwV (C := RX9) 0 hts fm_440 fm_441 fm_442 fm_443 fm_6 rfl rfl ⟨by decide, by decide, by decide +kernel⟩ ⟨Nat.le_of_ble_eq_true rfl, Nat.le_of_ble_eq_true rfl⟩) (va_recv hK hP (ci := 13) (q0 := 31) rfl rfl) (fun _ h9 => h9) (fun a9 h9 => hA a9 (Nat.le_trans hS.1 h9)) hG hS hP hK hD rfl hl.1 rfl (Nat.le_of_ble_eq_true rfl) dX9_add_65 ⟨Nat.le_of_ble_eq_true rfl, Nat.le_of_ble_eq_true rfl⟩ (fun u_5 H locs hw hz1 hk1 hP hS => ?_)
    have hP : va_P D vwCl (fz_WC k q f u_5 (va_up (va_up v 9 1) 10 1)) H := hP
    have hD : va_D A (fz_WC k q f u_5 (va_up (va_up v 9 1) 10 1)) := fz_Dsame hD rfl
    refine lv_aload_n hx hb dX9_add_68 rfl (lv_at hl 0 rfl) ?_
    refine va_get (D := D) (ci := 13) (v := .ref (q 0)) (C := RX9) (T := TX9) (N := 8) hx hb hts (fun w9 h9 => fz_m (fin_X9 w9 h9)) hown hK hP 31 rfl rfl 0 (by decide) (hts _ (fz_m fm_9)) (fun _ h9 => h9) rfl dX9_add_69 ?_
    refine va_get (D := D) (ci := 11) (v := .ref (q 1)) (C := RX7) (T := TX7) (N := 6) hx hb hts (fun w9 h9 => fz_m (fin_X7 w9 h9)) hown hK hP 0 rfl rfl 0 (by decide) (hts _ (fz_m fm_10)) (fun _ h9 => h9) rfl dX9_add_72 ?_
    refine lv_iload_n hx hb dX9_add_75 rfl (lv_at hl 1 rfl) ?_
    refine lv_iload_n hx hb dX9_add_76 rfl (lv_at hl 2 rfl) ?_
    refine lv_iload_n hx hb dX9_add_77 rfl (lv_at hl 3 rfl) ?_
    refine lv_iload hx hb dX9_add_78 (lv_at hl 4 rfl) ?_
    refine lv_iload hx hb dX9_add_80 (lv_at hl 5 rfl) ?_
    refine fz_cVi (As := [.int 0, .int p1, .int p2, .int p3, .int p4]) (rest := []) S0 (c_grow l A D k q f u_5 (va_up (va_up v 9 1) 10 1) p1 p2 p3 p4 g_v_1 g_v_2 g_f_6_0 g_f_5_0) (fz_cwV (C := RX8) 5 hts fm_444 fm_445 fm_446 fm_447 fm_15 rfl rfl ⟨by decide, by decide, by decide +kernel⟩ ⟨Nat.le_of_ble_eq_true rfl, Nat.le_of_ble_eq_true rfl⟩) (va_recv hK hP (ci := 12) (q0 := 1) rfl rfl) (fun _ h9 => h9) (fun a9 h9 => hA a9 (Nat.le_trans hS.1 h9)) hG hS hP hK hD rfl hl.1 rfl (Nat.le_of_ble_eq_true rfl) dX9_add_82 ⟨Nat.le_of_ble_eq_true rfl, Nat.le_of_ble_eq_true rfl⟩ (fun r_6 u_6 H locs hw hz1 hk1 hP hS => ?_)
    have hP : va_P D vwCl [] H := hP
    obtain rfl : r_6 = 1 := hw
    exact vx_ret (fz_iret hx hb hr rfl hlocks hS dX9_add_85 () ⟨rfl, (fq_82 p1 p2 p3 p4 hq_2)⟩ hP (Nat.le_of_ble_eq_true rfl) (Nat.le_of_ble_eq_true rfl))
  · skip
    refine lv_if_ne (tgt := 39) hx hb dX9_add_26 (by decide) (fun c_7 => absurd (by decide) c_7) (fun c_7 => ?_)
    exact fz_throw (cls := "java/lang/IllegalArgumentException") (text := "no such node can be added there") (names := fz_EN) (ik := 69) (is := 71) (ic := 73) hx hb hl0 hown hts hG (fz_fit_73) ⟨fm_19, fm_20⟩ (by decide) fz_at_73 fz_ok_73 hS (hl.1.trans hml.symm) dX9_add_29 dX9_add_32 dX9_add_33 dX9_add_35 dX9_add_38 ht hlocks ⟨Nat.le_of_ble_eq_true rfl, Nat.le_of_ble_eq_true rfl, Nat.le_of_ble_eq_true rfl, Nat.le_of_ble_eq_true rfl⟩ (Or.inr (Or.inl ⟨rfl, (fq_83 p1 p2 p3 p4 hq_2)⟩)) ⟨Nat.le_of_ble_eq_true rfl, Nat.le_of_ble_eq_true rfl⟩

set_option maxHeartbeats 4000000 in
set_option maxRecDepth 100000 in
theorem c_setRule (l : Launch) (hl0 : l.stackTraces = false) (A : Nat → Prop) (D : va_G) (k : Nat → ClassId) (q : Nat → Nat) (f : Nat → Nat → Int32) (pa : Nat → Option Nat) (v : Nat → Int32) (p0 p1 p2 : Int32) (g_v_1 : v 1 = 1) (g_f_4_0 : f 4 0 = 0) (g_v_9 : v 9 = 0) (g_v_2 : v 2 = 1) (g_v_3 : v 3 = 0) (g_v_4 : v 4 = 0) (g_v_5 : v 5 = 0) (g_v_6 : v 6 = 0) (g_v_7 : v 7 = 0) (g_v_8 : v 8 = 0) (g_v_0 : v 0 = 3) (g_v_10 : v 10 = 0) (g_pa_1 : pa 1 = none) (g_f_11_0 : f 11 0 = (-1))  :
    vx_Met l yX9_setRule (fz_ws yX9_setRule cX9_setRule 6 (some .int)) { frames := 60, cells := 32, slots := 1705, locals := 800 } (va_Pc [.ref (q 31), .int p0, .int p1, .int p2] (fz_PC A D (fz_tys k) (fz_WC k q f pa v))) (fz_QI D A (fun (_ : Unit) => ([] : va_W)) (fun (r : Int32) (_ : Unit) => r = (-1) ∧ (p0 = 0 ∧ (p1 = (-1) ∨ p1 = 2 ∨ ((0 ≤ p1 ∧ p1 ≤ 1) ∧ (1 ≤ p2 ∧ p2 ≤ 5000)))))) (fz_XC (fun E => (E = "java/lang/IndexOutOfBoundsException" ∧ ¬ (p0 = 0)) ∨ (E = "java/lang/IllegalArgumentException" ∧ (p0 = 0 ∧ ¬ ((p1 = (-1) ∨ p1 = 2 ∨ ((0 ≤ p1 ∧ p1 ≤ 1) ∧ (1 ≤ p2 ∧ p2 ≤ 5000))))))) A) 32 1705 A := by
  refine fz_ofX (by decide +kernel) (Nat.le_of_ble_eq_true rfl) ?_
  intro p e s m below meth c hx hb hr hml hown hlocks hts ht hA hP hK hD hG hS ls hl
  have hown : s.vm.findClass RX9 = some m.cls := hown
  have S0 : CallFix p m c cX9_setRule 6 s [.ref (q 31), .int p0, .int p1, .int p2].toArray (fz_ws yX9_setRule cX9_setRule 6 (some .int)) RX9 := ⟨hx, hb, hml, hown, hts⟩
  have hl : lv_has ls 6 [(0, .ref (q 31)), (1, .int p0), (2, .int p1), (3, .int p2)] := hl
  refine lv_aload_n hx hb dX9_setRule_0 rfl (lv_at hl 0 rfl) ?_
  refine lv_iload_n hx hb dX9_setRule_1 rfl (lv_at hl 1 rfl) ?_
  refine fz_xVv (As := [.int p0]) (rest := []) S0 (c_reqNode l hl0 A D k q f pa v p0 g_v_1 g_f_4_0) (fz_cwV (C := RX9) 1 hts fm_100 fm_101 fm_102 fm_103 fm_6 rfl rfl ⟨by decide, by decide, by decide +kernel⟩ ⟨Nat.le_of_ble_eq_true rfl, Nat.le_of_ble_eq_true rfl⟩) (va_recv hK hP (ci := 13) (q0 := 31) rfl rfl) (fun _ h9 => h9) (fun a9 h9 => hA a9 (Nat.le_trans hS.1 h9)) hG hS hP hK hD rfl hl.1 rfl (Nat.le_of_ble_eq_true rfl) dX9_setRule_2 ⟨Nat.le_of_ble_eq_true rfl, Nat.le_of_ble_eq_true rfl⟩ ht hlocks (fun E hE => by obtain ⟨rfl, h9⟩ := hE; exact (Or.inl ⟨rfl, (fq_28 p0 h9)⟩)) ⟨Nat.le_of_ble_eq_true rfl, Nat.le_of_ble_eq_true rfl⟩ (fun u_1 H locs hw hz1 hk1 hP hS => ?_)
  have hP : va_P D vwCl (fz_WC k q f pa v) H := hP
  have hq_1 : p0 = 0 := hw
  obtain rfl : p0 = 0 := (fq_27 p0 hq_1)
  refine lv_iload_n hx hb dX9_setRule_5 rfl (lv_at hl 2 rfl) ?_
  refine lv_if_eq (tgt := 14) hx hb dX9_setRule_6 (by decide) (fun c_2 => ?_) (fun c_2 => ?_)
  · skip
    obtain rfl : p1 = 0 := (fq_27 p1 c_2)
    refine lv_iconst (v := 1) hx hb dX9_setRule_14 (by decide) ?_
    refine lv_goto (tgt := 19) hx hb dX9_setRule_15 (by decide) ?_
    refine lv_istore (lv' := [(4, .int 1), (0, .ref (q 31)), (1, .int 0), (2, .int 0), (3, .int p2)]) hx hb dX9_setRule_19 hl (by decide) rfl (fun ls hl => ?_)
    refine lv_iload_n hx hb dX9_setRule_21 rfl (lv_at hl 3 rfl) ?_
    refine lv_iconst (v := (-1)) hx hb dX9_setRule_22 (by decide) ?_
    refine lv_icmp_lt (tgt := 48) hx hb dX9_setRule_23 (by decide) (fun c_3 => absurd c_3 (by decide)) (fun c_3 => ?_)
    refine lv_iload_n hx hb dX9_setRule_26 rfl (lv_at hl 3 rfl) ?_
    refine lv_iconst (v := 2) hx hb dX9_setRule_27 (by decide) ?_
    refine lv_icmp_gt (tgt := 48) hx hb dX9_setRule_28 (by decide) (fun c_4 => absurd c_4 (by decide)) (fun c_4 => ?_)
    refine lv_iload hx hb dX9_setRule_31 (lv_at hl 0 rfl) ?_
    refine lv_if_eq (tgt := 58) hx hb dX9_setRule_33 (by decide) (fun c_5 => absurd c_5 (by decide)) (fun c_5 => ?_)
    refine lv_iload_n hx hb dX9_setRule_36 rfl (lv_at hl 4 rfl) ?_
    refine lv_iconst (v := 1) hx hb dX9_setRule_37 (by decide) ?_
    refine lv_icmp_lt (tgt := 48) hx hb dX9_setRule_38 (by decide) (fun c_6 => ?_) (fun c_6 => ?_)
    · skip
      exact fz_throw (cls := "java/lang/IllegalArgumentException") (text := "no such rule") (names := fz_EN) (ik := 69) (is := 166) (ic := 73) hx hb hl0 hown hts hG (fz_fit_73) ⟨fm_19, fm_20⟩ (by decide) fz_at_73 fz_ok_73 hS (hl.1.trans hml.symm) dX9_setRule_48 dX9_setRule_51 dX9_setRule_52 dX9_setRule_54 dX9_setRule_57 ht hlocks ⟨Nat.le_of_ble_eq_true rfl, Nat.le_of_ble_eq_true rfl, Nat.le_of_ble_eq_true rfl, Nat.le_of_ble_eq_true rfl⟩ (Or.inr ⟨rfl, (fq_84 p2 c_6)⟩) ⟨Nat.le_of_ble_eq_true rfl, Nat.le_of_ble_eq_true rfl⟩
    · skip
      refine lv_iload_n hx hb dX9_setRule_41 rfl (lv_at hl 4 rfl) ?_
      refine lv_sipush (v := 5000) hx hb dX9_setRule_42 (by decide) ?_
      refine lv_icmp_le (tgt := 58) hx hb dX9_setRule_45 (by decide) (fun c_7 => ?_) (fun c_7 => ?_)
      · skip
        refine lv_aload_n hx hb dX9_setRule_58 rfl (lv_at hl 1 rfl) ?_
        refine fz_cVv (As := []) (rest := []) S0 (c_remember l A D k q f pa v g_v_9 g_pa_1 g_v_1 g_v_2 g_v_3 g_v_4 g_v_5 g_v_6 g_v_7 g_v_8 g_v_0 g_v_10) (fz_cwV (C := RX9) 0 hts fm_440 fm_441 fm_442 fm_443 fm_6 rfl rfl ⟨by decide, by decide, by decide +kernel⟩ ⟨Nat.le_of_ble_eq_true rfl, Nat.le_of_ble_eq_true rfl⟩) (va_recv hK hP (ci := 13) (q0 := 31) rfl rfl) (fun _ h9 => h9) (fun a9 h9 => hA a9 (Nat.le_trans hS.1 h9)) hG hS hP hK hD rfl hl.1 rfl (Nat.le_of_ble_eq_true rfl) dX9_setRule_59 ⟨Nat.le_of_ble_eq_true rfl, Nat.le_of_ble_eq_true rfl⟩ (fun u_8 H locs hw hz1 hk1 hP hS => ?_)
        have hP : va_P D vwCl (fz_WC k q f u_8 (va_up (va_up v 9 1) 10 1)) H := hP
        have hD : va_D A (fz_WC k q f u_8 (va_up (va_up v 9 1) 10 1)) := fz_Dsame hD rfl
        refine lv_aload_n hx hb dX9_setRule_62 rfl (lv_at hl 1 rfl) ?_
        refine va_get (D := D) (ci := 13) (v := .ref (q 0)) (C := RX9) (T := TX9) (N := 8) hx hb hts (fun w9 h9 => fz_m (fin_X9 w9 h9)) hown hK hP 31 rfl rfl 0 (by decide) (hts _ (fz_m fm_9)) (fun _ h9 => h9) rfl dX9_setRule_63 ?_
        refine va_get (D := D) (ci := 11) (v := .ref (q 10)) (C := RX7) (T := TX7) (N := 6) hx hb hts (fun w9 h9 => fz_m (fin_X7 w9 h9)) hown hK hP 0 rfl rfl 1 (by decide) (hts _ (fz_m fm_128)) (fun _ h9 => h9) rfl dX9_setRule_66 ?_
        refine va_get (D := D) (ci := 10) (v := .ref (q 11)) (C := RX6) (T := TX6) (N := 3) hx hb hts (fun w9 h9 => fz_m (fin_X6 w9 h9)) hown hK hP 10 rfl rfl 0 (by decide) (hts _ (fz_m fm_448)) (fun _ h9 => h9) rfl dX9_setRule_69 ?_
        refine lv_iload_n hx hb dX9_setRule_72 rfl (lv_at hl 2 rfl) ?_
        refine va_iald hx hb hK hP 11 0 rfl rfl (fz_vin (by decide)) dX9_setRule_73 ?_
        refine fz_I (y := (-1)) g_f_11_0 ?_
        refine lv_istore (lv' := [(5, .int (-1)), (4, .int 1), (0, .ref (q 31)), (1, .int 0), (2, .int 0), (3, .int p2)]) hx hb dX9_setRule_74 hl (by decide) rfl (fun ls hl => ?_)
        refine lv_aload_n hx hb dX9_setRule_76 rfl (lv_at hl 2 rfl) ?_
        refine va_get (D := D) (ci := 13) (v := .ref (q 0)) (C := RX9) (T := TX9) (N := 8) hx hb hts (fun w9 h9 => fz_m (fin_X9 w9 h9)) hown hK hP 31 rfl rfl 0 (by decide) (hts _ (fz_m fm_9)) (fun _ h9 => h9) rfl dX9_setRule_77 ?_
        refine va_get (D := D) (ci := 11) (v := .ref (q 10)) (C := RX7) (T := TX7) (N := 6) hx hb hts (fun w9 h9 => fz_m (fin_X7 w9 h9)) hown hK hP 0 rfl rfl 1 (by decide) (hts _ (fz_m fm_128)) (fun _ h9 => h9) rfl dX9_setRule_80 ?_
        refine va_get (D := D) (ci := 10) (v := .ref (q 11)) (C := RX6) (T := TX6) (N := 3) hx hb hts (fun w9 h9 => fz_m (fin_X6 w9 h9)) hown hK hP 10 rfl rfl 0 (by decide) (hts _ (fz_m fm_448)) (fun _ h9 => h9) rfl dX9_setRule_83 ?_
        refine lv_iload_n hx hb dX9_setRule_86 rfl (lv_at hl 3 rfl) ?_
        refine lv_iload_n hx hb dX9_setRule_87 rfl (lv_at hl 4 rfl) ?_
        refine va_iast hx hb hK hP hD hS 11 0 rfl rfl (fz_vin (by decide)) dX9_setRule_88 (fun H locs hP hD hS => ?_)
        have hP : va_P D vwCl (fz_WC k q (va_up f 11 (upd (f 11) 0 0)) u_8 (va_up (va_up v 9 1) 10 1)) H := hP
        have hD : va_D A (fz_WC k q (va_up f 11 (upd (f 11) 0 0)) u_8 (va_up (va_up v 9 1) 10 1)) := hD
        refine lv_aload_n hx hb dX9_setRule_89 rfl (lv_at hl 2 rfl) ?_
        refine va_get (D := D) (ci := 13) (v := .ref (q 0)) (C := RX9) (T := TX9) (N := 8) hx hb hts (fun w9 h9 => fz_m (fin_X9 w9 h9)) hown hK hP 31 rfl rfl 0 (by decide) (hts _ (fz_m fm_9)) (fun _ h9 => h9) rfl dX9_setRule_90 ?_
        refine va_get (D := D) (ci := 11) (v := .ref (q 10)) (C := RX7) (T := TX7) (N := 6) hx hb hts (fun w9 h9 => fz_m (fin_X7 w9 h9)) hown hK hP 0 rfl rfl 1 (by decide) (hts _ (fz_m fm_128)) (fun _ h9 => h9) rfl dX9_setRule_93 ?_
        refine va_get (D := D) (ci := 10) (v := .ref (q 12)) (C := RX6) (T := TX6) (N := 3) hx hb hts (fun w9 h9 => fz_m (fin_X6 w9 h9)) hown hK hP 10 rfl rfl 1 (by decide) (hts _ (fz_m fm_449)) (fun _ h9 => h9) rfl dX9_setRule_96 ?_
        refine lv_iload_n hx hb dX9_setRule_99 rfl (lv_at hl 3 rfl) ?_
        refine lv_iload hx hb dX9_setRule_100 (lv_at hl 1 rfl) ?_
        refine lv_if_eq (tgt := 109) hx hb dX9_setRule_102 (by decide) (fun c_9 => absurd c_9 (by decide)) (fun c_9 => ?_)
        refine lv_iload_n hx hb dX9_setRule_105 rfl (lv_at hl 5 rfl) ?_
        refine lv_goto (tgt := 110) hx hb dX9_setRule_106 (by decide) ?_
        refine va_iast hx hb hK hP hD hS 12 0 rfl rfl (fz_vin (by decide)) dX9_setRule_110 (fun H locs hP hD hS => ?_)
        have hP : va_P D vwCl (fz_WC k q (va_up (va_up f 11 (upd (f 11) 0 0)) 12 (upd (f 12) 0 p2)) u_8 (va_up (va_up v 9 1) 10 1)) H := hP
        have hD : va_D A (fz_WC k q (va_up (va_up f 11 (upd (f 11) 0 0)) 12 (upd (f 12) 0 p2)) u_8 (va_up (va_up v 9 1) 10 1)) := hD
        refine lv_iload hx hb dX9_setRule_111 (lv_at hl 0 rfl) ?_
        have hP : va_P D vwCl [] H := fz_nil
        exact vx_ret (fz_iret hx hb hr rfl hlocks hS dX9_setRule_113 () ⟨rfl, (fq_85 p2 c_6 c_7)⟩ hP (Nat.le_of_ble_eq_true rfl) (Nat.le_of_ble_eq_true rfl))
      · skip
        exact fz_throw (cls := "java/lang/IllegalArgumentException") (text := "no such rule") (names := fz_EN) (ik := 69) (is := 166) (ic := 73) hx hb hl0 hown hts hG (fz_fit_73) ⟨fm_19, fm_20⟩ (by decide) fz_at_73 fz_ok_73 hS (hl.1.trans hml.symm) dX9_setRule_48 dX9_setRule_51 dX9_setRule_52 dX9_setRule_54 dX9_setRule_57 ht hlocks ⟨Nat.le_of_ble_eq_true rfl, Nat.le_of_ble_eq_true rfl, Nat.le_of_ble_eq_true rfl, Nat.le_of_ble_eq_true rfl⟩ (Or.inr ⟨rfl, (fq_86 p2 c_7)⟩) ⟨Nat.le_of_ble_eq_true rfl, Nat.le_of_ble_eq_true rfl⟩
  · skip
    refine lv_iload_n hx hb dX9_setRule_9 rfl (lv_at hl 2 rfl) ?_
    refine lv_iconst (v := 1) hx hb dX9_setRule_10 (by decide) ?_
    refine lv_icmp_ne (tgt := 18) hx hb dX9_setRule_11 (by decide) (fun c_10 => ?_) (fun c_10 => ?_)
    · skip
      refine lv_iconst (v := 0) hx hb dX9_setRule_18 (by decide) ?_
      refine lv_istore (lv' := [(4, .int 0), (0, .ref (q 31)), (1, .int 0), (2, .int p1), (3, .int p2)]) hx hb dX9_setRule_19 hl (by decide) rfl (fun ls hl => ?_)
      refine lv_iload_n hx hb dX9_setRule_21 rfl (lv_at hl 3 rfl) ?_
      refine lv_iconst (v := (-1)) hx hb dX9_setRule_22 (by decide) ?_
      refine lv_icmp_lt (tgt := 48) hx hb dX9_setRule_23 (by decide) (fun c_11 => ?_) (fun c_11 => ?_)
      · skip
        exact fz_throw (cls := "java/lang/IllegalArgumentException") (text := "no such rule") (names := fz_EN) (ik := 69) (is := 166) (ic := 73) hx hb hl0 hown hts hG (fz_fit_73) ⟨fm_19, fm_20⟩ (by decide) fz_at_73 fz_ok_73 hS (hl.1.trans hml.symm) dX9_setRule_48 dX9_setRule_51 dX9_setRule_52 dX9_setRule_54 dX9_setRule_57 ht hlocks ⟨Nat.le_of_ble_eq_true rfl, Nat.le_of_ble_eq_true rfl, Nat.le_of_ble_eq_true rfl, Nat.le_of_ble_eq_true rfl⟩ (Or.inr ⟨rfl, (fq_87 p1 p2 c_11)⟩) ⟨Nat.le_of_ble_eq_true rfl, Nat.le_of_ble_eq_true rfl⟩
      · skip
        refine lv_iload_n hx hb dX9_setRule_26 rfl (lv_at hl 3 rfl) ?_
        refine lv_iconst (v := 2) hx hb dX9_setRule_27 (by decide) ?_
        refine lv_icmp_gt (tgt := 48) hx hb dX9_setRule_28 (by decide) (fun c_12 => ?_) (fun c_12 => ?_)
        · skip
          exact fz_throw (cls := "java/lang/IllegalArgumentException") (text := "no such rule") (names := fz_EN) (ik := 69) (is := 166) (ic := 73) hx hb hl0 hown hts hG (fz_fit_73) ⟨fm_19, fm_20⟩ (by decide) fz_at_73 fz_ok_73 hS (hl.1.trans hml.symm) dX9_setRule_48 dX9_setRule_51 dX9_setRule_52 dX9_setRule_54 dX9_setRule_57 ht hlocks ⟨Nat.le_of_ble_eq_true rfl, Nat.le_of_ble_eq_true rfl, Nat.le_of_ble_eq_true rfl, Nat.le_of_ble_eq_true rfl⟩ (Or.inr ⟨rfl, (fq_88 p1 p2 c_12)⟩) ⟨Nat.le_of_ble_eq_true rfl, Nat.le_of_ble_eq_true rfl⟩
        · skip
          refine lv_iload hx hb dX9_setRule_31 (lv_at hl 0 rfl) ?_
          refine lv_if_eq (tgt := 58) hx hb dX9_setRule_33 (by decide) (fun c_13 => ?_) (fun c_13 => absurd (by decide) c_13)
          refine lv_aload_n hx hb dX9_setRule_58 rfl (lv_at hl 1 rfl) ?_
          refine fz_cVv (As := []) (rest := []) S0 (c_remember l A D k q f pa v g_v_9 g_pa_1 g_v_1 g_v_2 g_v_3 g_v_4 g_v_5 g_v_6 g_v_7 g_v_8 g_v_0 g_v_10) (fz_cwV (C := RX9) 0 hts fm_440 fm_441 fm_442 fm_443 fm_6 rfl rfl ⟨by decide, by decide, by decide +kernel⟩ ⟨Nat.le_of_ble_eq_true rfl, Nat.le_of_ble_eq_true rfl⟩) (va_recv hK hP (ci := 13) (q0 := 31) rfl rfl) (fun _ h9 => h9) (fun a9 h9 => hA a9 (Nat.le_trans hS.1 h9)) hG hS hP hK hD rfl hl.1 rfl (Nat.le_of_ble_eq_true rfl) dX9_setRule_59 ⟨Nat.le_of_ble_eq_true rfl, Nat.le_of_ble_eq_true rfl⟩ (fun u_14 H locs hw hz1 hk1 hP hS => ?_)
          have hP : va_P D vwCl (fz_WC k q f u_14 (va_up (va_up v 9 1) 10 1)) H := hP
          have hD : va_D A (fz_WC k q f u_14 (va_up (va_up v 9 1) 10 1)) := fz_Dsame hD rfl
          refine lv_aload_n hx hb dX9_setRule_62 rfl (lv_at hl 1 rfl) ?_
          refine va_get (D := D) (ci := 13) (v := .ref (q 0)) (C := RX9) (T := TX9) (N := 8) hx hb hts (fun w9 h9 => fz_m (fin_X9 w9 h9)) hown hK hP 31 rfl rfl 0 (by decide) (hts _ (fz_m fm_9)) (fun _ h9 => h9) rfl dX9_setRule_63 ?_
          refine va_get (D := D) (ci := 11) (v := .ref (q 10)) (C := RX7) (T := TX7) (N := 6) hx hb hts (fun w9 h9 => fz_m (fin_X7 w9 h9)) hown hK hP 0 rfl rfl 1 (by decide) (hts _ (fz_m fm_128)) (fun _ h9 => h9) rfl dX9_setRule_66 ?_
          refine va_get (D := D) (ci := 10) (v := .ref (q 11)) (C := RX6) (T := TX6) (N := 3) hx hb hts (fun w9 h9 => fz_m (fin_X6 w9 h9)) hown hK hP 10 rfl rfl 0 (by decide) (hts _ (fz_m fm_448)) (fun _ h9 => h9) rfl dX9_setRule_69 ?_
          refine lv_iload_n hx hb dX9_setRule_72 rfl (lv_at hl 2 rfl) ?_
          refine va_iald hx hb hK hP 11 0 rfl rfl (fz_vin (by decide)) dX9_setRule_73 ?_
          refine fz_I (y := (-1)) g_f_11_0 ?_
          refine lv_istore (lv' := [(5, .int (-1)), (4, .int 0), (0, .ref (q 31)), (1, .int 0), (2, .int p1), (3, .int p2)]) hx hb dX9_setRule_74 hl (by decide) rfl (fun ls hl => ?_)
          refine lv_aload_n hx hb dX9_setRule_76 rfl (lv_at hl 2 rfl) ?_
          refine va_get (D := D) (ci := 13) (v := .ref (q 0)) (C := RX9) (T := TX9) (N := 8) hx hb hts (fun w9 h9 => fz_m (fin_X9 w9 h9)) hown hK hP 31 rfl rfl 0 (by decide) (hts _ (fz_m fm_9)) (fun _ h9 => h9) rfl dX9_setRule_77 ?_
          refine va_get (D := D) (ci := 11) (v := .ref (q 10)) (C := RX7) (T := TX7) (N := 6) hx hb hts (fun w9 h9 => fz_m (fin_X7 w9 h9)) hown hK hP 0 rfl rfl 1 (by decide) (hts _ (fz_m fm_128)) (fun _ h9 => h9) rfl dX9_setRule_80 ?_
          refine va_get (D := D) (ci := 10) (v := .ref (q 11)) (C := RX6) (T := TX6) (N := 3) hx hb hts (fun w9 h9 => fz_m (fin_X6 w9 h9)) hown hK hP 10 rfl rfl 0 (by decide) (hts _ (fz_m fm_448)) (fun _ h9 => h9) rfl dX9_setRule_83 ?_
          refine lv_iload_n hx hb dX9_setRule_86 rfl (lv_at hl 3 rfl) ?_
          refine lv_iload_n hx hb dX9_setRule_87 rfl (lv_at hl 4 rfl) ?_
          refine va_iast hx hb hK hP hD hS 11 0 rfl rfl (fz_vin (by decide)) dX9_setRule_88 (fun H locs hP hD hS => ?_)
          have hP : va_P D vwCl (fz_WC k q (va_up f 11 (upd (f 11) 0 p1)) u_14 (va_up (va_up v 9 1) 10 1)) H := hP
          have hD : va_D A (fz_WC k q (va_up f 11 (upd (f 11) 0 p1)) u_14 (va_up (va_up v 9 1) 10 1)) := hD
          refine lv_aload_n hx hb dX9_setRule_89 rfl (lv_at hl 2 rfl) ?_
          refine va_get (D := D) (ci := 13) (v := .ref (q 0)) (C := RX9) (T := TX9) (N := 8) hx hb hts (fun w9 h9 => fz_m (fin_X9 w9 h9)) hown hK hP 31 rfl rfl 0 (by decide) (hts _ (fz_m fm_9)) (fun _ h9 => h9) rfl dX9_setRule_90 ?_
          refine va_get (D := D) (ci := 11) (v := .ref (q 10)) (C := RX7) (T := TX7) (N := 6) hx hb hts (fun w9 h9 => fz_m (fin_X7 w9 h9)) hown hK hP 0 rfl rfl 1 (by decide) (hts _ (fz_m fm_128)) (fun _ h9 => h9) rfl dX9_setRule_93 ?_
          refine va_get (D := D) (ci := 10) (v := .ref (q 12)) (C := RX6) (T := TX6) (N := 3) hx hb hts (fun w9 h9 => fz_m (fin_X6 w9 h9)) hown hK hP 10 rfl rfl 1 (by decide) (hts _ (fz_m fm_449)) (fun _ h9 => h9) rfl dX9_setRule_96 ?_
          refine lv_iload_n hx hb dX9_setRule_99 rfl (lv_at hl 3 rfl) ?_
          refine lv_iload hx hb dX9_setRule_100 (lv_at hl 1 rfl) ?_
          refine lv_if_eq (tgt := 109) hx hb dX9_setRule_102 (by decide) (fun c_15 => ?_) (fun c_15 => absurd (by decide) c_15)
          refine lv_iconst (v := 0) hx hb dX9_setRule_109 (by decide) ?_
          refine va_iast hx hb hK hP hD hS 12 0 rfl rfl (fz_vin (by decide)) dX9_setRule_110 (fun H locs hP hD hS => ?_)
          have hP : va_P D vwCl (fz_WC k q (va_up (va_up f 11 (upd (f 11) 0 p1)) 12 (upd (f 12) 0 0)) u_14 (va_up (va_up v 9 1) 10 1)) H := hP
          have hD : va_D A (fz_WC k q (va_up (va_up f 11 (upd (f 11) 0 p1)) 12 (upd (f 12) 0 0)) u_14 (va_up (va_up v 9 1) 10 1)) := hD
          refine lv_iload hx hb dX9_setRule_111 (lv_at hl 0 rfl) ?_
          have hP : va_P D vwCl [] H := fz_nil
          exact vx_ret (fz_iret hx hb hr rfl hlocks hS dX9_setRule_113 () ⟨rfl, (fq_89 p1 p2 c_2 c_10 c_11 c_12)⟩ hP (Nat.le_of_ble_eq_true rfl) (Nat.le_of_ble_eq_true rfl))
    · skip
      obtain rfl : p1 = 1 := (fq_18 p1 c_10)
      refine lv_iconst (v := 1) hx hb dX9_setRule_14 (by decide) ?_
      refine lv_goto (tgt := 19) hx hb dX9_setRule_15 (by decide) ?_
      refine lv_istore (lv' := [(4, .int 1), (0, .ref (q 31)), (1, .int 0), (2, .int 1), (3, .int p2)]) hx hb dX9_setRule_19 hl (by decide) rfl (fun ls hl => ?_)
      refine lv_iload_n hx hb dX9_setRule_21 rfl (lv_at hl 3 rfl) ?_
      refine lv_iconst (v := (-1)) hx hb dX9_setRule_22 (by decide) ?_
      refine lv_icmp_lt (tgt := 48) hx hb dX9_setRule_23 (by decide) (fun c_16 => absurd c_16 (by decide)) (fun c_16 => ?_)
      refine lv_iload_n hx hb dX9_setRule_26 rfl (lv_at hl 3 rfl) ?_
      refine lv_iconst (v := 2) hx hb dX9_setRule_27 (by decide) ?_
      refine lv_icmp_gt (tgt := 48) hx hb dX9_setRule_28 (by decide) (fun c_17 => absurd c_17 (by decide)) (fun c_17 => ?_)
      refine lv_iload hx hb dX9_setRule_31 (lv_at hl 0 rfl) ?_
      refine lv_if_eq (tgt := 58) hx hb dX9_setRule_33 (by decide) (fun c_18 => absurd c_18 (by decide)) (fun c_18 => ?_)
      refine lv_iload_n hx hb dX9_setRule_36 rfl (lv_at hl 4 rfl) ?_
      refine lv_iconst (v := 1) hx hb dX9_setRule_37 (by decide) ?_
      refine lv_icmp_lt (tgt := 48) hx hb dX9_setRule_38 (by decide) (fun c_19 => ?_) (fun c_19 => ?_)
      · skip
        exact fz_throw (cls := "java/lang/IllegalArgumentException") (text := "no such rule") (names := fz_EN) (ik := 69) (is := 166) (ic := 73) hx hb hl0 hown hts hG (fz_fit_73) ⟨fm_19, fm_20⟩ (by decide) fz_at_73 fz_ok_73 hS (hl.1.trans hml.symm) dX9_setRule_48 dX9_setRule_51 dX9_setRule_52 dX9_setRule_54 dX9_setRule_57 ht hlocks ⟨Nat.le_of_ble_eq_true rfl, Nat.le_of_ble_eq_true rfl, Nat.le_of_ble_eq_true rfl, Nat.le_of_ble_eq_true rfl⟩ (Or.inr ⟨rfl, (fq_90 p2 c_19)⟩) ⟨Nat.le_of_ble_eq_true rfl, Nat.le_of_ble_eq_true rfl⟩
      · skip
        refine lv_iload_n hx hb dX9_setRule_41 rfl (lv_at hl 4 rfl) ?_
        refine lv_sipush (v := 5000) hx hb dX9_setRule_42 (by decide) ?_
        refine lv_icmp_le (tgt := 58) hx hb dX9_setRule_45 (by decide) (fun c_20 => ?_) (fun c_20 => ?_)
        · skip
          refine lv_aload_n hx hb dX9_setRule_58 rfl (lv_at hl 1 rfl) ?_
          refine fz_cVv (As := []) (rest := []) S0 (c_remember l A D k q f pa v g_v_9 g_pa_1 g_v_1 g_v_2 g_v_3 g_v_4 g_v_5 g_v_6 g_v_7 g_v_8 g_v_0 g_v_10) (fz_cwV (C := RX9) 0 hts fm_440 fm_441 fm_442 fm_443 fm_6 rfl rfl ⟨by decide, by decide, by decide +kernel⟩ ⟨Nat.le_of_ble_eq_true rfl, Nat.le_of_ble_eq_true rfl⟩) (va_recv hK hP (ci := 13) (q0 := 31) rfl rfl) (fun _ h9 => h9) (fun a9 h9 => hA a9 (Nat.le_trans hS.1 h9)) hG hS hP hK hD rfl hl.1 rfl (Nat.le_of_ble_eq_true rfl) dX9_setRule_59 ⟨Nat.le_of_ble_eq_true rfl, Nat.le_of_ble_eq_true rfl⟩ (fun u_21 H locs hw hz1 hk1 hP hS => ?_)
          have hP : va_P D vwCl (fz_WC k q f u_21 (va_up (va_up v 9 1) 10 1)) H := hP
          have hD : va_D A (fz_WC k q f u_21 (va_up (va_up v 9 1) 10 1)) := fz_Dsame hD rfl
          refine lv_aload_n hx hb dX9_setRule_62 rfl (lv_at hl 1 rfl) ?_
          refine va_get (D := D) (ci := 13) (v := .ref (q 0)) (C := RX9) (T := TX9) (N := 8) hx hb hts (fun w9 h9 => fz_m (fin_X9 w9 h9)) hown hK hP 31 rfl rfl 0 (by decide) (hts _ (fz_m fm_9)) (fun _ h9 => h9) rfl dX9_setRule_63 ?_
          refine va_get (D := D) (ci := 11) (v := .ref (q 10)) (C := RX7) (T := TX7) (N := 6) hx hb hts (fun w9 h9 => fz_m (fin_X7 w9 h9)) hown hK hP 0 rfl rfl 1 (by decide) (hts _ (fz_m fm_128)) (fun _ h9 => h9) rfl dX9_setRule_66 ?_
          refine va_get (D := D) (ci := 10) (v := .ref (q 11)) (C := RX6) (T := TX6) (N := 3) hx hb hts (fun w9 h9 => fz_m (fin_X6 w9 h9)) hown hK hP 10 rfl rfl 0 (by decide) (hts _ (fz_m fm_448)) (fun _ h9 => h9) rfl dX9_setRule_69 ?_
          refine lv_iload_n hx hb dX9_setRule_72 rfl (lv_at hl 2 rfl) ?_
          refine va_iald hx hb hK hP 11 0 rfl rfl (fz_vin (by decide)) dX9_setRule_73 ?_
          refine fz_I (y := (-1)) g_f_11_0 ?_
          refine lv_istore (lv' := [(5, .int (-1)), (4, .int 1), (0, .ref (q 31)), (1, .int 0), (2, .int 1), (3, .int p2)]) hx hb dX9_setRule_74 hl (by decide) rfl (fun ls hl => ?_)
          refine lv_aload_n hx hb dX9_setRule_76 rfl (lv_at hl 2 rfl) ?_
          refine va_get (D := D) (ci := 13) (v := .ref (q 0)) (C := RX9) (T := TX9) (N := 8) hx hb hts (fun w9 h9 => fz_m (fin_X9 w9 h9)) hown hK hP 31 rfl rfl 0 (by decide) (hts _ (fz_m fm_9)) (fun _ h9 => h9) rfl dX9_setRule_77 ?_
          refine va_get (D := D) (ci := 11) (v := .ref (q 10)) (C := RX7) (T := TX7) (N := 6) hx hb hts (fun w9 h9 => fz_m (fin_X7 w9 h9)) hown hK hP 0 rfl rfl 1 (by decide) (hts _ (fz_m fm_128)) (fun _ h9 => h9) rfl dX9_setRule_80 ?_
          refine va_get (D := D) (ci := 10) (v := .ref (q 11)) (C := RX6) (T := TX6) (N := 3) hx hb hts (fun w9 h9 => fz_m (fin_X6 w9 h9)) hown hK hP 10 rfl rfl 0 (by decide) (hts _ (fz_m fm_448)) (fun _ h9 => h9) rfl dX9_setRule_83 ?_
          refine lv_iload_n hx hb dX9_setRule_86 rfl (lv_at hl 3 rfl) ?_
          refine lv_iload_n hx hb dX9_setRule_87 rfl (lv_at hl 4 rfl) ?_
          refine va_iast hx hb hK hP hD hS 11 0 rfl rfl (fz_vin (by decide)) dX9_setRule_88 (fun H locs hP hD hS => ?_)
          have hP : va_P D vwCl (fz_WC k q (va_up f 11 (upd (f 11) 0 1)) u_21 (va_up (va_up v 9 1) 10 1)) H := hP
          have hD : va_D A (fz_WC k q (va_up f 11 (upd (f 11) 0 1)) u_21 (va_up (va_up v 9 1) 10 1)) := hD
          refine lv_aload_n hx hb dX9_setRule_89 rfl (lv_at hl 2 rfl) ?_
          refine va_get (D := D) (ci := 13) (v := .ref (q 0)) (C := RX9) (T := TX9) (N := 8) hx hb hts (fun w9 h9 => fz_m (fin_X9 w9 h9)) hown hK hP 31 rfl rfl 0 (by decide) (hts _ (fz_m fm_9)) (fun _ h9 => h9) rfl dX9_setRule_90 ?_
          refine va_get (D := D) (ci := 11) (v := .ref (q 10)) (C := RX7) (T := TX7) (N := 6) hx hb hts (fun w9 h9 => fz_m (fin_X7 w9 h9)) hown hK hP 0 rfl rfl 1 (by decide) (hts _ (fz_m fm_128)) (fun _ h9 => h9) rfl dX9_setRule_93 ?_
          refine va_get (D := D) (ci := 10) (v := .ref (q 12)) (C := RX6) (T := TX6) (N := 3) hx hb hts (fun w9 h9 => fz_m (fin_X6 w9 h9)) hown hK hP 10 rfl rfl 1 (by decide) (hts _ (fz_m fm_449)) (fun _ h9 => h9) rfl dX9_setRule_96 ?_
          refine lv_iload_n hx hb dX9_setRule_99 rfl (lv_at hl 3 rfl) ?_
          refine lv_iload hx hb dX9_setRule_100 (lv_at hl 1 rfl) ?_
          refine lv_if_eq (tgt := 109) hx hb dX9_setRule_102 (by decide) (fun c_22 => absurd c_22 (by decide)) (fun c_22 => ?_)
          refine lv_iload_n hx hb dX9_setRule_105 rfl (lv_at hl 5 rfl) ?_
          refine lv_goto (tgt := 110) hx hb dX9_setRule_106 (by decide) ?_
          refine va_iast hx hb hK hP hD hS 12 0 rfl rfl (fz_vin (by decide)) dX9_setRule_110 (fun H locs hP hD hS => ?_)
          have hP : va_P D vwCl (fz_WC k q (va_up (va_up f 11 (upd (f 11) 0 1)) 12 (upd (f 12) 0 p2)) u_21 (va_up (va_up v 9 1) 10 1)) H := hP
          have hD : va_D A (fz_WC k q (va_up (va_up f 11 (upd (f 11) 0 1)) 12 (upd (f 12) 0 p2)) u_21 (va_up (va_up v 9 1) 10 1)) := hD
          refine lv_iload hx hb dX9_setRule_111 (lv_at hl 0 rfl) ?_
          have hP : va_P D vwCl [] H := fz_nil
          exact vx_ret (fz_iret hx hb hr rfl hlocks hS dX9_setRule_113 () ⟨rfl, (fq_91 p2 c_19 c_20)⟩ hP (Nat.le_of_ble_eq_true rfl) (Nat.le_of_ble_eq_true rfl))
        · skip
          exact fz_throw (cls := "java/lang/IllegalArgumentException") (text := "no such rule") (names := fz_EN) (ik := 69) (is := 166) (ic := 73) hx hb hl0 hown hts hG (fz_fit_73) ⟨fm_19, fm_20⟩ (by decide) fz_at_73 fz_ok_73 hS (hl.1.trans hml.symm) dX9_setRule_48 dX9_setRule_51 dX9_setRule_52 dX9_setRule_54 dX9_setRule_57 ht hlocks ⟨Nat.le_of_ble_eq_true rfl, Nat.le_of_ble_eq_true rfl, Nat.le_of_ble_eq_true rfl, Nat.le_of_ble_eq_true rfl⟩ (Or.inr ⟨rfl, (fq_92 p2 c_20)⟩) ⟨Nat.le_of_ble_eq_true rfl, Nat.le_of_ble_eq_true rfl⟩

set_option maxHeartbeats 4000000 in
set_option maxRecDepth 100000 in
theorem c_setPage (l : Launch) (hl0 : l.stackTraces = false) (A : Nat → Prop) (D : va_G) (k : Nat → ClassId) (q : Nat → Nat) (f : Nat → Nat → Int32) (pa : Nat → Option Nat) (v : Nat → Int32) (p0 p1 p2 : Int32) (g_v_1 : v 1 = 1) (g_f_4_0 : f 4 0 = 0) (g_f_7_0 : f 7 0 = 0)  :
    vx_Met l yX9_setPage (fz_ws yX9_setPage cX9_setPage 6 (some .int)) { frames := 24, cells := 2, slots := 12, locals := 320 } (va_Pc [.ref (q 31), .int p0, .int p1, .int p2] (fz_PC A D (fz_tys k) (fz_WC k q f pa v))) (fz_QI D A (fun (_ : Unit) => ([] : va_W)) (fun (r : Int32) (_ : Unit) => False)) (fz_XC (fun E => (E = "java/lang/IndexOutOfBoundsException" ∧ True)) A) 2 12 A := by
  refine fz_ofX (by decide +kernel) (Nat.le_of_ble_eq_true rfl) ?_
  intro p e s m below meth c hx hb hr hml hown hlocks hts ht hA hP hK hD hG hS ls hl
  have hown : s.vm.findClass RX9 = some m.cls := hown
  have S0 : CallFix p m c cX9_setPage 6 s [.ref (q 31), .int p0, .int p1, .int p2].toArray (fz_ws yX9_setPage cX9_setPage 6 (some .int)) RX9 := ⟨hx, hb, hml, hown, hts⟩
  have hl : lv_has ls 6 [(0, .ref (q 31)), (1, .int p0), (2, .int p1), (3, .int p2)] := hl
  refine lv_aload_n hx hb dX9_setPage_0 rfl (lv_at hl 0 rfl) ?_
  refine lv_iload_n hx hb dX9_setPage_1 rfl (lv_at hl 1 rfl) ?_
  refine fz_xVv (As := [.int p0]) (rest := []) S0 (c_reqNode l hl0 A D k q f pa v p0 g_v_1 g_f_4_0) (fz_cwV (C := RX9) 1 hts fm_100 fm_101 fm_102 fm_103 fm_6 rfl rfl ⟨by decide, by decide, by decide +kernel⟩ ⟨Nat.le_of_ble_eq_true rfl, Nat.le_of_ble_eq_true rfl⟩) (va_recv hK hP (ci := 13) (q0 := 31) rfl rfl) (fun _ h9 => h9) (fun a9 h9 => hA a9 (Nat.le_trans hS.1 h9)) hG hS hP hK hD rfl hl.1 rfl (Nat.le_of_ble_eq_true rfl) dX9_setPage_2 ⟨Nat.le_of_ble_eq_true rfl, Nat.le_of_ble_eq_true rfl⟩ ht hlocks (fun E hE => by obtain ⟨rfl, h9⟩ := hE; exact ⟨rfl, trivial⟩) ⟨Nat.le_of_ble_eq_true rfl, Nat.le_of_ble_eq_true rfl⟩ (fun u_1 H locs hw hz1 hk1 hP hS => ?_)
  have hP : va_P D vwCl (fz_WC k q f pa v) H := hP
  have hq_1 : p0 = 0 := hw
  obtain rfl : p0 = 0 := (fq_27 p0 hq_1)
  refine lv_iload_n hx hb dX9_setPage_5 rfl (lv_at hl 2 rfl) ?_
  refine lv_if_lt (tgt := 25) hx hb dX9_setPage_6 (by decide) (fun c_2 => ?_) (fun c_2 => ?_)
  · skip
    exact fz_throw (cls := "java/lang/IndexOutOfBoundsException") (text := "no such page") (names := fz_EN) (ik := 161) (is := 180) (ic := 165) hx hb hl0 hown hts hG (fz_fit_165) ⟨fm_16, fm_17⟩ (by decide) fz_at_165 fz_ok_165 hS (hl.1.trans hml.symm) dX9_setPage_25 dX9_setPage_28 dX9_setPage_29 dX9_setPage_31 dX9_setPage_34 ht hlocks ⟨Nat.le_of_ble_eq_true rfl, Nat.le_of_ble_eq_true rfl, Nat.le_of_ble_eq_true rfl, Nat.le_of_ble_eq_true rfl⟩ ⟨rfl, trivial⟩ ⟨Nat.le_of_ble_eq_true rfl, Nat.le_of_ble_eq_true rfl⟩
  · skip
    refine lv_iload_n hx hb dX9_setPage_9 rfl (lv_at hl 2 rfl) ?_
    refine lv_aload_n hx hb dX9_setPage_10 rfl (lv_at hl 0 rfl) ?_
    refine va_get (D := D) (ci := 13) (v := .ref (q 0)) (C := RX9) (T := TX9) (N := 8) hx hb hts (fun w9 h9 => fz_m (fin_X9 w9 h9)) hown hK hP 31 rfl rfl 0 (by decide) (hts _ (fz_m fm_9)) (fun _ h9 => h9) rfl dX9_setPage_11 ?_
    refine va_get (D := D) (ci := 11) (v := .ref (q 1)) (C := RX7) (T := TX7) (N := 6) hx hb hts (fun w9 h9 => fz_m (fin_X7 w9 h9)) hown hK hP 0 rfl rfl 0 (by decide) (hts _ (fz_m fm_10)) (fun _ h9 => h9) rfl dX9_setPage_14 ?_
    refine va_get (D := D) (ci := 12) (v := .ref (q 7)) (C := RX8) (T := TX8) (N := 10) hx hb hts (fun w9 h9 => fz_m (fin_X8 w9 h9)) hown hK hP 1 rfl rfl 7 (by decide) (hts _ (fz_m fm_18)) (fun _ h9 => h9) rfl dX9_setPage_17 ?_
    refine lv_iload_n hx hb dX9_setPage_20 rfl (lv_at hl 1 rfl) ?_
    refine va_iald hx hb hK hP 7 0 rfl rfl (fz_vin (by decide)) dX9_setPage_21 ?_
    refine fz_I (y := 0) g_f_7_0 ?_
    refine lv_icmp_lt (tgt := 35) hx hb dX9_setPage_22 (by decide) (fun c_3 => (fq_29 p1 c_2 c_3).elim) (fun c_3 => ?_)
    exact fz_throw (cls := "java/lang/IndexOutOfBoundsException") (text := "no such page") (names := fz_EN) (ik := 161) (is := 180) (ic := 165) hx hb hl0 hown hts hG (fz_fit_165) ⟨fm_16, fm_17⟩ (by decide) fz_at_165 fz_ok_165 hS (hl.1.trans hml.symm) dX9_setPage_25 dX9_setPage_28 dX9_setPage_29 dX9_setPage_31 dX9_setPage_34 ht hlocks ⟨Nat.le_of_ble_eq_true rfl, Nat.le_of_ble_eq_true rfl, Nat.le_of_ble_eq_true rfl, Nat.le_of_ble_eq_true rfl⟩ ⟨rfl, trivial⟩ ⟨Nat.le_of_ble_eq_true rfl, Nat.le_of_ble_eq_true rfl⟩

set_option maxHeartbeats 4000000 in
set_option maxRecDepth 100000 in
theorem c_addContainer (l : Launch) (hl0 : l.stackTraces = false) (A : Nat → Prop) (D : va_G) (k : Nat → ClassId) (q : Nat → Nat) (f : Nat → Nat → Int32) (pa : Nat → Option Nat) (v : Nat → Int32) (p0 : Int32) (g_v_4 : v 4 = 0) (g_v_3 : v 3 = 0) (g_v_9 : v 9 = 0) (g_v_1 : v 1 = 1) (g_v_2 : v 2 = 1) (g_v_5 : v 5 = 0) (g_v_6 : v 6 = 0) (g_v_7 : v 7 = 0) (g_v_8 : v 8 = 0) (g_v_0 : v 0 = 3) (g_v_10 : v 10 = 0) (g_pa_1 : pa 1 = none)  :
    vx_Met l yX9_addContainer (fz_ws yX9_addContainer cX9_addContainer 2 (some .int)) { frames := 60, cells := 32, slots := 1705, locals := 800 } (va_Pc [.ref (q 31), .int p0] (fz_PC A D (fz_tys k) (fz_WC k q f pa v))) (fz_QI D A (fun (_ : Unit) => ([] : va_W)) (fun (r : Int32) (_ : Unit) => r = 0 ∧ (1 ≤ p0 ∧ p0 ≤ 200))) (fz_XC (fun E => (E = "java/lang/IllegalArgumentException" ∧ ¬ ((1 ≤ p0 ∧ p0 ≤ 200)))) A) 32 1705 A := by
  refine fz_ofX (by decide +kernel) (Nat.le_of_ble_eq_true rfl) ?_
  intro p e s m below meth c hx hb hr hml hown hlocks hts ht hA hP hK hD hG hS ls hl
  have hown : s.vm.findClass RX9 = some m.cls := hown
  have S0 : CallFix p m c cX9_addContainer 2 s [.ref (q 31), .int p0].toArray (fz_ws yX9_addContainer cX9_addContainer 2 (some .int)) RX9 := ⟨hx, hb, hml, hown, hts⟩
  have hl : lv_has ls 2 [(0, .ref (q 31)), (1, .int p0)] := hl
  refine lv_iload_n hx hb dX9_addContainer_0 rfl (lv_at hl 1 rfl) ?_
  refine fz_xSv (As := [.int p0]) (rest := []) S0 (c_reqCap l hl0 A D k q f pa v p0) (fz_cwS 1 hts fm_450 fm_451 fm_452 fm_6 rfl rfl ⟨by decide, by decide, by decide +kernel⟩ ⟨Nat.le_of_ble_eq_true rfl, Nat.le_of_ble_eq_true rfl⟩) (fun _ h9 => h9) (fun a9 h9 => hA a9 (Nat.le_trans hS.1 h9)) hG hS hP hK hD rfl hl.1 rfl (Nat.le_of_ble_eq_true rfl) dX9_addContainer_1 ⟨Nat.le_of_ble_eq_true rfl, Nat.le_of_ble_eq_true rfl⟩ ht hlocks (fun E hE => by obtain ⟨rfl, h9⟩ := hE; exact ⟨rfl, (fq_93 p0 h9)⟩) ⟨Nat.le_of_ble_eq_true rfl, Nat.le_of_ble_eq_true rfl⟩ (fun u_1 H locs hw hz1 hk1 hP hS => ?_)
  have hP : va_P D vwCl (fz_WC k q f pa v) H := hP
  have hq_1 : (1 ≤ p0 ∧ p0 ≤ 200) := hw
  refine lv_aload_n hx hb dX9_addContainer_4 rfl (lv_at hl 0 rfl) ?_
  refine va_get (D := D) (ci := 13) (v := .ref (q 0)) (C := RX9) (T := TX9) (N := 8) hx hb hts (fun w9 h9 => fz_m (fin_X9 w9 h9)) hown hK hP 31 rfl rfl 0 (by decide) (hts _ (fz_m fm_9)) (fun _ h9 => h9) rfl dX9_addContainer_5 ?_
  refine va_get (D := D) (ci := 11) (v := .ref (q 14)) (C := RX7) (T := TX7) (N := 6) hx hb hts (fun w9 h9 => fz_m (fin_X7 w9 h9)) hown hK hP 0 rfl rfl 2 (by decide) (hts _ (fz_m fm_21)) (fun _ h9 => h9) rfl dX9_addContainer_8 ?_
  refine fz_cVi (As := []) (rest := []) S0 (c_canOpen l A D k q f pa v g_v_4 g_v_3) (fz_cwV (C := RX0) 0 hts fm_453 fm_454 fm_455 fm_456 fm_26 rfl rfl ⟨by decide, by decide, by decide +kernel⟩ ⟨Nat.le_of_ble_eq_true rfl, Nat.le_of_ble_eq_true rfl⟩) (va_recv hK hP (ci := 4) (q0 := 14) rfl rfl) (fun _ h9 => h9) (fun a9 h9 => hA a9 (Nat.le_trans hS.1 h9)) hG hS hP hK hD rfl hl.1 rfl (Nat.le_of_ble_eq_true rfl) dX9_addContainer_11 ⟨Nat.le_of_ble_eq_true rfl, Nat.le_of_ble_eq_true rfl⟩ (fun r_2 u_2 H locs hw hz1 hk1 hP hS => ?_)
  have hP : va_P D vwCl (fz_WC k q f pa v) H := hP
  obtain rfl : r_2 = 1 := hw
  refine lv_if_ne (tgt := 27) hx hb dX9_addContainer_14 (by decide) (fun c_3 => ?_) (fun c_3 => absurd c_3 (by decide))
  refine lv_aload_n hx hb dX9_addContainer_27 rfl (lv_at hl 0 rfl) ?_
  refine fz_cVv (As := []) (rest := []) S0 (c_remember l A D k q f pa v g_v_9 g_pa_1 g_v_1 g_v_2 g_v_3 g_v_4 g_v_5 g_v_6 g_v_7 g_v_8 g_v_0 g_v_10) (fz_cwV (C := RX9) 0 hts fm_440 fm_441 fm_442 fm_443 fm_6 rfl rfl ⟨by decide, by decide, by decide +kernel⟩ ⟨Nat.le_of_ble_eq_true rfl, Nat.le_of_ble_eq_true rfl⟩) (va_recv hK hP (ci := 13) (q0 := 31) rfl rfl) (fun _ h9 => h9) (fun a9 h9 => hA a9 (Nat.le_trans hS.1 h9)) hG hS hP hK hD rfl hl.1 rfl (Nat.le_of_ble_eq_true rfl) dX9_addContainer_28 ⟨Nat.le_of_ble_eq_true rfl, Nat.le_of_ble_eq_true rfl⟩ (fun u_4 H locs hw hz1 hk1 hP hS => ?_)
  have hP : va_P D vwCl (fz_WC k q f u_4 (va_up (va_up v 9 1) 10 1)) H := hP
  have hD : va_D A (fz_WC k q f u_4 (va_up (va_up v 9 1) 10 1)) := fz_Dsame hD rfl
  refine lv_aload_n hx hb dX9_addContainer_31 rfl (lv_at hl 0 rfl) ?_
  refine va_get (D := D) (ci := 13) (v := .ref (q 0)) (C := RX9) (T := TX9) (N := 8) hx hb hts (fun w9 h9 => fz_m (fin_X9 w9 h9)) hown hK hP 31 rfl rfl 0 (by decide) (hts _ (fz_m fm_9)) (fun _ h9 => h9) rfl dX9_addContainer_32 ?_
  refine va_get (D := D) (ci := 11) (v := .ref (q 14)) (C := RX7) (T := TX7) (N := 6) hx hb hts (fun w9 h9 => fz_m (fin_X7 w9 h9)) hown hK hP 0 rfl rfl 2 (by decide) (hts _ (fz_m fm_21)) (fun _ h9 => h9) rfl dX9_addContainer_35 ?_
  refine lv_iload_n hx hb dX9_addContainer_38 rfl (lv_at hl 1 rfl) ?_
  refine fz_cVi (As := [.int p0]) (rest := []) S0 (c_openC l A D k q f u_4 (va_up (va_up v 9 1) 10 1) p0 g_v_3 g_v_4) (fz_cwV (C := RX0) 1 hts fm_457 fm_458 fm_459 fm_460 fm_26 rfl rfl ⟨by decide, by decide, by decide +kernel⟩ ⟨Nat.le_of_ble_eq_true rfl, Nat.le_of_ble_eq_true rfl⟩) (va_recv hK hP (ci := 4) (q0 := 14) rfl rfl) (fun _ h9 => h9) (fun a9 h9 => hA a9 (Nat.le_trans hS.1 h9)) hG hS hP hK hD rfl hl.1 rfl (Nat.le_of_ble_eq_true rfl) dX9_addContainer_39 ⟨Nat.le_of_ble_eq_true rfl, Nat.le_of_ble_eq_true rfl⟩ (fun r_5 u_5 H locs hw hz1 hk1 hP hS => ?_)
  have hP : va_P D vwCl [] H := hP
  obtain rfl : r_5 = 0 := hw
  exact vx_ret (fz_iret hx hb hr rfl hlocks hS dX9_addContainer_42 () ⟨rfl, (fq_94 p0 hq_1)⟩ hP (Nat.le_of_ble_eq_true rfl) (Nat.le_of_ble_eq_true rfl))

set_option maxHeartbeats 4000000 in
set_option maxRecDepth 100000 in
theorem c_setSeats (l : Launch) (hl0 : l.stackTraces = false) (A : Nat → Prop) (D : va_G) (k : Nat → ClassId) (q : Nat → Nat) (f : Nat → Nat → Int32) (pa : Nat → Option Nat) (v : Nat → Int32) (p0 : Int32) (g_v_9 : v 9 = 0) (g_v_1 : v 1 = 1) (g_v_2 : v 2 = 1) (g_v_3 : v 3 = 0) (g_v_4 : v 4 = 0) (g_v_5 : v 5 = 0) (g_v_6 : v 6 = 0) (g_v_7 : v 7 = 0) (g_v_8 : v 8 = 0) (g_v_0 : v 0 = 3) (g_v_10 : v 10 = 0) (g_pa_1 : pa 1 = none)  :
    vx_Met l yX9_setSeats (fz_ws yX9_setSeats cX9_setSeats 3 (some .int)) { frames := 60, cells := 31, slots := 1699, locals := 800 } (va_Pc [.ref (q 31), .int p0] (fz_PC A D (fz_tys k) (fz_WC k q f pa v))) (fz_QI D A (fun (_ : Unit) => ([] : va_W)) (fun (r : Int32) (_ : Unit) => r = 3 ∧ (1 ≤ p0 ∧ p0 ≤ 6))) (fz_XC (fun E => (E = "java/lang/IllegalArgumentException" ∧ ¬ ((1 ≤ p0 ∧ p0 ≤ 6)))) A) 31 1699 A := by
  refine fz_ofX (by decide +kernel) (Nat.le_of_ble_eq_true rfl) ?_
  intro p e s m below meth c hx hb hr hml hown hlocks hts ht hA hP hK hD hG hS ls hl
  have hown : s.vm.findClass RX9 = some m.cls := hown
  have S0 : CallFix p m c cX9_setSeats 3 s [.ref (q 31), .int p0].toArray (fz_ws yX9_setSeats cX9_setSeats 3 (some .int)) RX9 := ⟨hx, hb, hml, hown, hts⟩
  have hl : lv_has ls 3 [(0, .ref (q 31)), (1, .int p0)] := hl
  refine lv_iload_n hx hb dX9_setSeats_0 rfl (lv_at hl 1 rfl) ?_
  refine lv_iconst (v := 1) hx hb dX9_setSeats_1 (by decide) ?_
  refine lv_icmp_lt (tgt := 11) hx hb dX9_setSeats_2 (by decide) (fun c_1 => ?_) (fun c_1 => ?_)
  · skip
    exact fz_throwW (cls := "java/lang/IllegalArgumentException") (text := "no such number of seats") (names := fz_EN) (ik := 69) (is := 323) (ic := 73) hx hb hl0 hown hts hG (fz_fit_73) ⟨fm_19, fm_20⟩ (by decide) fz_at_73 fz_ok_73 hS (hl.1.trans hml.symm) dX9_setSeats_11 dX9_setSeats_14 dX9_setSeats_15 dX9_setSeats_18 dX9_setSeats_21 ht hlocks ⟨Nat.le_of_ble_eq_true rfl, Nat.le_of_ble_eq_true rfl, Nat.le_of_ble_eq_true rfl, Nat.le_of_ble_eq_true rfl⟩ ⟨rfl, (fq_95 p0 c_1)⟩ ⟨Nat.le_of_ble_eq_true rfl, Nat.le_of_ble_eq_true rfl⟩
  · skip
    refine lv_iload_n hx hb dX9_setSeats_5 rfl (lv_at hl 1 rfl) ?_
    refine lv_bipush (v := 6) hx hb dX9_setSeats_6 (by decide) ?_
    refine lv_icmp_le (tgt := 22) hx hb dX9_setSeats_8 (by decide) (fun c_2 => ?_) (fun c_2 => ?_)
    · skip
      refine lv_aload_n hx hb dX9_setSeats_22 rfl (lv_at hl 0 rfl) ?_
      refine fz_cVv (As := []) (rest := []) S0 (c_remember l A D k q f pa v g_v_9 g_pa_1 g_v_1 g_v_2 g_v_3 g_v_4 g_v_5 g_v_6 g_v_7 g_v_8 g_v_0 g_v_10) (fz_cwV (C := RX9) 0 hts fm_440 fm_441 fm_442 fm_443 fm_6 rfl rfl ⟨by decide, by decide, by decide +kernel⟩ ⟨Nat.le_of_ble_eq_true rfl, Nat.le_of_ble_eq_true rfl⟩) (va_recv hK hP (ci := 13) (q0 := 31) rfl rfl) (fun _ h9 => h9) (fun a9 h9 => hA a9 (Nat.le_trans hS.1 h9)) hG hS hP hK hD rfl hl.1 rfl (Nat.le_of_ble_eq_true rfl) dX9_setSeats_23 ⟨Nat.le_of_ble_eq_true rfl, Nat.le_of_ble_eq_true rfl⟩ (fun u_3 H locs hw hz1 hk1 hP hS => ?_)
      have hP : va_P D vwCl (fz_WC k q f u_3 (va_up (va_up v 9 1) 10 1)) H := hP
      have hD : va_D A (fz_WC k q f u_3 (va_up (va_up v 9 1) 10 1)) := fz_Dsame hD rfl
      refine lv_aload_n hx hb dX9_setSeats_26 rfl (lv_at hl 0 rfl) ?_
      refine va_get (D := D) (ci := 13) (v := .ref (q 0)) (C := RX9) (T := TX9) (N := 8) hx hb hts (fun w9 h9 => fz_m (fin_X9 w9 h9)) hown hK hP 31 rfl rfl 0 (by decide) (hts _ (fz_m fm_9)) (fun _ h9 => h9) rfl dX9_setSeats_27 ?_
      refine va_get (D := D) (ci := 11) (v := .int ((va_up (va_up v 9 1) 10 1) 0)) (C := RX7) (T := TX7) (N := 6) hx hb hts (fun w9 h9 => fz_m (fin_X7 w9 h9)) hown hK hP 0 rfl rfl 5 (by decide) (hts _ (fz_m fm_461)) (fun _ h9 => h9) rfl dX9_setSeats_30 ?_
      refine fz_I (y := 3) g_v_0 ?_
      refine lv_istore_n (lv' := [(2, .int 3), (0, .ref (q 31)), (1, .int p0)]) hx hb dX9_setSeats_33 rfl hl (by decide) rfl (fun ls hl => ?_)
      refine lv_aload_n hx hb dX9_setSeats_34 rfl (lv_at hl 1 rfl) ?_
      refine va_get (D := D) (ci := 13) (v := .ref (q 0)) (C := RX9) (T := TX9) (N := 8) hx hb hts (fun w9 h9 => fz_m (fin_X9 w9 h9)) hown hK hP 31 rfl rfl 0 (by decide) (hts _ (fz_m fm_9)) (fun _ h9 => h9) rfl dX9_setSeats_35 ?_
      refine lv_iload_n hx hb dX9_setSeats_38 rfl (lv_at hl 2 rfl) ?_
      refine va_put (D := D) (ci := 11) (v := .int p0) (ty := .int) (C := RX7) (T := TX7) (N := 6) hx hb hts (fun w9 h9 => fz_m (fin_X7 w9 h9)) tyX7 tyX7_ok nmX7 hown hK hP hD hS 0 rfl rfl 5 (by decide) (hts _ (fz_m fm_461)) (fun _ h9 => h9) rfl (by decide +kernel) rfl rfl (Nat.le_of_ble_eq_true rfl) dX9_setSeats_39 (fun H locs hP hD hS => ?_)
      have hP : va_P D vwCl (fz_WC k q f u_3 (va_up (va_up (va_up v 9 1) 10 1) 0 p0)) H := hP
      have hD : va_D A (fz_WC k q f u_3 (va_up (va_up (va_up v 9 1) 10 1) 0 p0)) := hD
      refine lv_iload_n hx hb dX9_setSeats_42 rfl (lv_at hl 0 rfl) ?_
      have hP : va_P D vwCl [] H := fz_nil
      exact vx_ret (fz_iret hx hb hr rfl hlocks hS dX9_setSeats_43 () ⟨rfl, (fq_96 p0 c_1 c_2)⟩ hP (Nat.le_of_ble_eq_true rfl) (Nat.le_of_ble_eq_true rfl))
    · skip
      exact fz_throwW (cls := "java/lang/IllegalArgumentException") (text := "no such number of seats") (names := fz_EN) (ik := 69) (is := 323) (ic := 73) hx hb hl0 hown hts hG (fz_fit_73) ⟨fm_19, fm_20⟩ (by decide) fz_at_73 fz_ok_73 hS (hl.1.trans hml.symm) dX9_setSeats_11 dX9_setSeats_14 dX9_setSeats_15 dX9_setSeats_18 dX9_setSeats_21 ht hlocks ⟨Nat.le_of_ble_eq_true rfl, Nat.le_of_ble_eq_true rfl, Nat.le_of_ble_eq_true rfl, Nat.le_of_ble_eq_true rfl⟩ ⟨rfl, (fq_97 p0 c_2)⟩ ⟨Nat.le_of_ble_eq_true rfl, Nat.le_of_ble_eq_true rfl⟩

set_option maxHeartbeats 4000000 in
set_option maxRecDepth 100000 in
theorem c_review (l : Launch) (A : Nat → Prop) (D : va_G) (k : Nat → ClassId) (q : Nat → Nat) (f : Nat → Nat → Int32) (pa : Nat → Option Nat) (v : Nat → Int32) (g_v_9 : v 9 = 0) (g_v_1 : v 1 = 1) (g_v_2 : v 2 = 1) (g_v_3 : v 3 = 0) (g_v_4 : v 4 = 0) (g_v_5 : v 5 = 0) (g_v_6 : v 6 = 0) (g_v_7 : v 7 = 0) (g_v_8 : v 8 = 0) (g_v_0 : v 0 = 3) (g_v_10 : v 10 = 0) (g_pa_1 : pa 1 = none)  :
    Met l yX9_review (fz_ws yX9_review cX9_review 3 (some .int)) { frames := 60, cells := 31, slots := 1699, locals := 800 } (va_Pc [.ref (q 31)] (fz_PC A D (fz_tys k) (fz_WC k q f pa v))) (fz_QI D A (fun (_ : Unit) => ([] : va_W)) (fun (r : Int32) (_ : Unit) => r = 0)) 31 1699 A := by
  refine fz_of (by decide +kernel) (Nat.le_of_ble_eq_true rfl) ?_
  intro p e s m below meth c hx hb hr hml hown hlocks hts hin hA hP hK hD hG hS ls hl
  have hown : s.vm.findClass RX9 = some m.cls := hown
  have S0 : CallFix p m c cX9_review 3 s [.ref (q 31)].toArray (fz_ws yX9_review cX9_review 3 (some .int)) RX9 := ⟨hx, hb, hml, hown, hts⟩
  have hl : lv_has ls 3 [(0, .ref (q 31))] := hl
  refine lv_aload_n hx hb dX9_review_0 rfl (lv_at hl 0 rfl) ?_
  refine fz_cVv (As := []) (rest := []) S0 (c_remember l A D k q f pa v g_v_9 g_pa_1 g_v_1 g_v_2 g_v_3 g_v_4 g_v_5 g_v_6 g_v_7 g_v_8 g_v_0 g_v_10) (fz_cwV (C := RX9) 0 hts fm_440 fm_441 fm_442 fm_443 fm_6 rfl rfl ⟨by decide, by decide, by decide +kernel⟩ ⟨Nat.le_of_ble_eq_true rfl, Nat.le_of_ble_eq_true rfl⟩) (va_recv hK hP (ci := 13) (q0 := 31) rfl rfl) (fun _ h9 => h9) (fun a9 h9 => hA a9 (Nat.le_trans hS.1 h9)) hG hS hP hK hD rfl hl.1 rfl (Nat.le_of_ble_eq_true rfl) dX9_review_1 ⟨Nat.le_of_ble_eq_true rfl, Nat.le_of_ble_eq_true rfl⟩ (fun u_1 H locs hw hz1 hk1 hP hS => ?_)
  have hP : va_P D vwCl (fz_WC k q f u_1 (va_up (va_up v 9 1) 10 1)) H := hP
  have hD : va_D A (fz_WC k q f u_1 (va_up (va_up v 9 1) 10 1)) := fz_Dsame hD rfl
  refine lv_aload_n hx hb dX9_review_4 rfl (lv_at hl 0 rfl) ?_
  refine va_get (D := D) (ci := 13) (v := .ref (q 0)) (C := RX9) (T := TX9) (N := 8) hx hb hts (fun w9 h9 => fz_m (fin_X9 w9 h9)) hown hK hP 31 rfl rfl 0 (by decide) (hts _ (fz_m fm_9)) (fun _ h9 => h9) rfl dX9_review_5 ?_
  refine va_get (D := D) (ci := 11) (v := .ref (q 26)) (C := RX7) (T := TX7) (N := 6) hx hb hts (fun w9 h9 => fz_m (fin_X7 w9 h9)) hown hK hP 0 rfl rfl 4 (by decide) (hts _ (fz_m fm_33)) (fun _ h9 => h9) rfl dX9_review_8 ?_
  refine va_get (D := D) (ci := 9) (v := .int ((va_up (va_up v 9 1) 10 1) 8)) (C := RX5) (T := TX5) (N := 5) hx hb hts (fun w9 h9 => fz_m (fin_X5 w9 h9)) hown hK hP 26 rfl rfl 0 (by decide) (hts _ (fz_m fm_34)) (fun _ h9 => h9) rfl dX9_review_11 ?_
  refine fz_I (y := 0) g_v_8 ?_
  refine lv_istore_n (lv' := [(1, .int 0), (0, .ref (q 31))]) hx hb dX9_review_14 rfl hl (by decide) rfl (fun ls hl => ?_)
  refine lv_iload_n hx hb dX9_review_15 rfl (lv_at hl 0 rfl) ?_
  refine lv_iconst (v := 1) hx hb dX9_review_16 (by decide) ?_
  refine lv_isub hx hb dX9_review_17 ?_
  refine fz_I (y := (-1)) (by decide) ?_
  refine lv_istore_n (lv' := [(2, .int (-1)), (1, .int 0), (0, .ref (q 31))]) hx hb dX9_review_18 rfl hl (by decide) rfl (fun ls hl => ?_)
  refine lv_iload_n hx hb dX9_review_19 rfl (lv_at hl 0 rfl) ?_
  refine lv_if_lt (tgt := 51) hx hb dX9_review_20 (by decide) (fun c_2 => ?_) (fun c_2 => absurd (by decide) c_2)
  refine lv_iload_n hx hb dX9_review_51 rfl (lv_at hl 1 rfl) ?_
  refine lv_aload_n hx hb dX9_review_52 rfl (lv_at hl 2 rfl) ?_
  refine va_get (D := D) (ci := 13) (v := .ref (q 0)) (C := RX9) (T := TX9) (N := 8) hx hb hts (fun w9 h9 => fz_m (fin_X9 w9 h9)) hown hK hP 31 rfl rfl 0 (by decide) (hts _ (fz_m fm_9)) (fun _ h9 => h9) rfl dX9_review_53 ?_
  refine va_get (D := D) (ci := 11) (v := .ref (q 26)) (C := RX7) (T := TX7) (N := 6) hx hb hts (fun w9 h9 => fz_m (fin_X7 w9 h9)) hown hK hP 0 rfl rfl 4 (by decide) (hts _ (fz_m fm_33)) (fun _ h9 => h9) rfl dX9_review_56 ?_
  refine va_get (D := D) (ci := 9) (v := .int ((va_up (va_up v 9 1) 10 1) 8)) (C := RX5) (T := TX5) (N := 5) hx hb hts (fun w9 h9 => fz_m (fin_X5 w9 h9)) hown hK hP 26 rfl rfl 0 (by decide) (hts _ (fz_m fm_34)) (fun _ h9 => h9) rfl dX9_review_59 ?_
  refine fz_I (y := 0) g_v_8 ?_
  refine lv_isub hx hb dX9_review_62 ?_
  refine fz_I (y := 0) (by decide) ?_
  have hP : va_P D vwCl [] H := fz_nil
  exact fz_iret hx hb hr rfl hlocks hS dX9_review_63 () rfl hP (Nat.le_of_ble_eq_true rfl) (Nat.le_of_ble_eq_true rfl)

set_option maxHeartbeats 4000000 in
set_option maxRecDepth 100000 in
theorem c_save (l : Launch) (A : Nat → Prop) (D : va_G) (k : Nat → ClassId) (q : Nat → Nat) (f : Nat → Nat → Int32) (pa : Nat → Option Nat) (v : Nat → Int32) (g_pa_8 : pa 8 = none) (g_v_1 : v 1 = 1) (g_v_2 : v 2 = 1) (g_v_3 : v 3 = 0) (g_v_4 : v 4 = 0) (g_v_5 : v 5 = 0) (g_v_6 : v 6 = 0) (g_v_7 : v 7 = 0) (g_v_8 : v 8 = 0) (g_v_0 : v 0 = 3)  :
    Met l yX9_save (fz_ws yX9_save cX9_save 1 (some .int)) { frames := 48, cells := 31, slots := 1699, locals := 640 } (va_Pc [.ref (q 31)] (fz_PC A D (fz_tys k) (fz_WC k q f pa v))) (fz_QI D A (fun (_ : Unit) => ([] : va_W)) (fun (r : Int32) (_ : Unit) => r = 1)) 31 1699 A := by
  refine fz_of (by decide +kernel) (Nat.le_of_ble_eq_true rfl) ?_
  intro p e s m below meth c hx hb hr hml hown hlocks hts hin hA hP hK hD hG hS ls hl
  have hown : s.vm.findClass RX9 = some m.cls := hown
  have S0 : CallFix p m c cX9_save 1 s [.ref (q 31)].toArray (fz_ws yX9_save cX9_save 1 (some .int)) RX9 := ⟨hx, hb, hml, hown, hts⟩
  have hl : lv_has ls 1 [(0, .ref (q 31))] := hl
  refine lv_aload_n hx hb dX9_save_0 rfl (lv_at hl 0 rfl) ?_
  refine va_get (D := D) (ci := 13) (v := va_rf (pa 8)) (C := RX9) (T := TX9) (N := 8) hx hb hts (fun w9 h9 => fz_m (fin_X9 w9 h9)) hown hK hP 31 rfl rfl 4 (by decide) (hts _ (fz_m fm_211)) (fun _ h9 => h9) rfl dX9_save_1 ?_
  refine fz_V (y := .null) (by rw [g_pa_8]; rfl) ?_
  refine lv_ifnonnullN hx hb dX9_save_4 ?_
  refine lv_aload_n hx hb dX9_save_7 rfl (lv_at hl 0 rfl) ?_
  refine va_new (ci := 11) (fs := [.null, .null, .null, .null, .null, .int 0]) (C := RX7) (T := TX7) (N := 6) hx hb hts (fun w9 h9 => fz_m (fin_X7 w9 h9)) tyX7 tyX7_ok hown (hts _ (fz_m fm_377)) (hts _ (fz_m fm_378)) (hts _ (fz_m fm_172)) hK hP hD hS hA rfl (fun j hj => by rcases (show j = 0 ∨ j = 1 ∨ j = 2 ∨ j = 3 ∨ j = 4 ∨ j = 5 by omega) with rfl | rfl | rfl | rfl | rfl | rfl <;> rfl) (Nat.le_of_ble_eq_true rfl) (Nat.le_of_ble_eq_true rfl) dX9_save_8 (fun s_1 H hP hD hS => ?_)
  refine lv_dup hx hb dX9_save_11 rfl ?_
  have hPc : va_P D vwCl [(s_1, .inr (11, [.null, .null, .null, .null, .null, .int 0]))] H := fz_right hP
  have hDc : va_D (va_A [(s_1, .inr (11, [.null, .null, .null, .null, .null, .int 0]))] H.size) [(s_1, .inr (11, [.null, .null, .null, .null, .null, .int 0]))] := (fz_rightD hD).self
  have hFc := va_free (wc := [(s_1, .inr (11, [.null, .null, .null, .null, .null, .int 0]))]) hD hS hA [38] rfl
  refine fz_kN (As := []) (rest := [.ref s_1, .ref (q 31)]) S0 (k_State l (va_A [(s_1, .inr (11, [.null, .null, .null, .null, .null, .int 0]))] H.size) D k s_1) ⟨va_cnB 0 hts (fz_g fm_379) rfl rfl rfl (hG.2.2.2.2.1 _ fm_380 rfl) (hts _ (fz_m fm_172)) ⟨by decide, by decide, by decide +kernel⟩ ⟨Nat.le_of_ble_eq_true rfl, Nat.le_of_ble_eq_true rfl⟩, rfl, hts _ (fz_m fm_381)⟩ hFc (fun a9 h9 => Or.inr h9) hG hS hPc hK hDc rfl hl.1 rfl (Nat.le_of_ble_eq_true rfl) dX9_save_12 ⟨Nat.le_of_ble_eq_true rfl, Nat.le_of_ble_eq_true rfl⟩ (fun u_1 H locs hw hz1 hk1 hP1 hD1 hS => ?_)
  obtain ⟨hP2, hD2⟩ := va_join (wr := fz_WC k q f pa v) (w1 := fz_WS k u_1.1 u_1.2 (fun _ => none) fz_v0) hP hD [38] [0, 1, 2, 3, 4, 5, 6, 7, 8, 9, 10, 11, 12, 13, 14, 15, 16, 17, 18, 19, 20, 21, 22, 23, 24, 25, 26, 27, 28, 29, 30, 31, 32, 33, 34, 35, 36, 37] rfl rfl (by decide) (by decide) hk1 hFc hP1 hD1
  obtain ⟨hq_1, -⟩ := hw
  subst hq_1
  have hP : va_P D vwCl (fz_W2 k q f pa v u_1.1 u_1.2 fz_v0) H := hP2
  have hD : va_D A (fz_W2 k q f pa v u_1.1 u_1.2 fz_v0) := hD2
  refine va_put (D := D) (ci := 13) (v := .ref (u_1.1 0)) (ty := .object "FindingAid$State") (C := RX9) (T := TX9) (N := 8) hx hb hts (fun w9 h9 => fz_m (fin_X9 w9 h9)) tyX9 tyX9_ok nmX9 hown hK hP hD hS 31 rfl rfl 4 (by decide) (hts _ (fz_m fm_211)) (fun _ h9 => h9) rfl (by decide +kernel) rfl rfl (Nat.le_of_ble_eq_true rfl) dX9_save_15 (fun H locs hP hD hS => ?_)
  have hP := fz_swap hP 32 rfl ((va_up pa 8 (some (u_1.1 0)))) (fun j hj => (if_neg (by omega)).symm)
  have hP : va_P D vwCl (fz_W2 k q f (va_up pa 8 (some (u_1.1 0))) v u_1.1 u_1.2 fz_v0) H := hP
  have hD : va_D A (fz_W2 k q f (va_up pa 8 (some (u_1.1 0))) v u_1.1 u_1.2 fz_v0) := fz_Dsame hD rfl
  refine lv_aload_n hx hb dX9_save_18 rfl (lv_at hl 0 rfl) ?_
  refine va_get (D := D) (ci := 13) (v := va_rf ((va_up pa 8 (some (u_1.1 0))) 8)) (C := RX9) (T := TX9) (N := 8) hx hb hts (fun w9 h9 => fz_m (fin_X9 w9 h9)) hown hK hP 31 rfl rfl 4 (by decide) (hts _ (fz_m fm_211)) (fun _ h9 => h9) rfl dX9_save_19 ?_
  refine fz_V (y := .ref (u_1.1 0)) rfl ?_
  refine lv_aload_n hx hb dX9_save_22 rfl (lv_at hl 0 rfl) ?_
  refine va_get (D := D) (ci := 13) (v := .ref (q 0)) (C := RX9) (T := TX9) (N := 8) hx hb hts (fun w9 h9 => fz_m (fin_X9 w9 h9)) hown hK hP 31 rfl rfl 0 (by decide) (hts _ (fz_m fm_9)) (fun _ h9 => h9) rfl dX9_save_23 ?_
  refine fz_cVv (As := [.ref (q 0)]) (rest := []) S0 (c_toState l A D k q f (va_up pa 8 (some (u_1.1 0))) v u_1.1 u_1.2 fz_v0 g_v_1 g_v_2 g_v_3 g_v_4 g_v_5 g_v_6 g_v_7 g_v_8 g_v_0) (fz_cwV (C := RX7) 1 hts fm_429 fm_430 fm_431 fm_432 fm_172 rfl rfl ⟨by decide, by decide, by decide +kernel⟩ ⟨Nat.le_of_ble_eq_true rfl, Nat.le_of_ble_eq_true rfl⟩) (va_recv hK hP (ci := 11) (q0 := 38) rfl rfl) (fun _ h9 => h9) (fun a9 h9 => hA a9 (Nat.le_trans hS.1 h9)) hG hS hP hK hD rfl hl.1 rfl (Nat.le_of_ble_eq_true rfl) dX9_save_26 ⟨Nat.le_of_ble_eq_true rfl, Nat.le_of_ble_eq_true rfl⟩ (fun u_2 H locs hw hz1 hk1 hP hS => ?_)
  have hP : va_P D vwCl (fz_W2 k q f (va_up pa 8 (some (u_1.1 0))) v u_1.1 u_2.1 u_2.2) H := hP
  have hD : va_D A (fz_W2 k q f (va_up pa 8 (some (u_1.1 0))) v u_1.1 u_2.1 u_2.2) := fz_Dsame hD rfl
  refine lv_aload_n hx hb dX9_save_29 rfl (lv_at hl 0 rfl) ?_
  refine va_get (D := D) (ci := 13) (v := .ref (q 0)) (C := RX9) (T := TX9) (N := 8) hx hb hts (fun w9 h9 => fz_m (fin_X9 w9 h9)) hown hK hP 31 rfl rfl 0 (by decide) (hts _ (fz_m fm_9)) (fun _ h9 => h9) rfl dX9_save_30 ?_
  refine va_get (D := D) (ci := 11) (v := .ref (q 1)) (C := RX7) (T := TX7) (N := 6) hx hb hts (fun w9 h9 => fz_m (fin_X7 w9 h9)) hown hK hP 0 rfl rfl 0 (by decide) (hts _ (fz_m fm_10)) (fun _ h9 => h9) rfl dX9_save_33 ?_
  refine va_get (D := D) (ci := 12) (v := .int (v 2)) (C := RX8) (T := TX8) (N := 10) hx hb hts (fun w9 h9 => fz_m (fin_X8 w9 h9)) hown hK hP 1 rfl rfl 1 (by decide) (hts _ (fz_m fm_157)) (fun _ h9 => h9) rfl dX9_save_36 ?_
  refine fz_I (y := 1) g_v_2 ?_
  have hP : va_P D vwCl [] H := fz_nil
  exact fz_iret hx hb hr rfl hlocks hS dX9_save_39 () rfl hP (Nat.le_of_ble_eq_true rfl) (Nat.le_of_ble_eq_true rfl)

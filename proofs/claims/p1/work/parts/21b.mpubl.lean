set_option maxHeartbeats 4000000 in
set_option maxRecDepth 100000 in
theorem m_p_add (l : Launch) (A : Nat → Prop) (D : va_G) (k : Nat → ClassId) (q : Nat → Nat) (f : Nat → Nat → Int32) (pa : Nat → Option Nat) (v : Nat → Int32) (p0 p1 p2 p3 p4 : Int32) (g_f_1_0 : f 1 0 = 1) (g_f_1_7 : f 1 7 = 1) (g_f_1_8 : f 1 8 = 0) (g_v_5 : v 5 = 0) (g_pb_0 : pa 0 = some (q 7)) (g_f_1_1 : f 1 1 = 1)  :
    Met l yX10_add (fz_ws yX10_add cX10_add 6 (some .int)) { frames := 48, cells := 0, slots := 0, locals := 640 } (va_Pc [.ref (q 0), .int p0, .int p1, .int p2, .int p3, .int p4] (fz_PC A D (fz_tys k) (fz_WM k q f pa v))) (fz_QI D A (fun (u : Nat → Int32) => fz_MO q u) (fun (r : Int32) (u : Nat → Int32) => (r = 0 ∧ u 0 = 1 ∧ ¬ (p0 = 0)) ∨ (r = 0 ∧ u 0 = 2 ∧ (p0 = 0 ∧ ¬ (((1 ≤ p1 ∧ p1 ≤ 3) ∧ 0 ≤ p2 ∧ ((p1 = 1 ∧ p2 ≤ 0) ∨ (¬ (p1 = 1) ∧ p2 ≤ 20)) ∧ (p3 = (-1) ∨ ((0 ≤ p3 ∧ p3 ≤ 9999) ∧ (0 ≤ p4 ∧ p4 ≤ 9999) ∧ p3 ≤ p4)))))) ∨ (r = 1 ∧ u 0 = 0 ∧ (p0 = 0 ∧ ((1 ≤ p1 ∧ p1 ≤ 3) ∧ 0 ≤ p2 ∧ ((p1 = 1 ∧ p2 ≤ 0) ∨ (¬ (p1 = 1) ∧ p2 ≤ 20)) ∧ (p3 = (-1) ∨ ((0 ≤ p3 ∧ p3 ≤ 9999) ∧ (0 ≤ p4 ∧ p4 ≤ 9999) ∧ p3 ≤ p4))))))) 0 0 A := by
  refine fz_of (by decide +kernel) (Nat.le_of_ble_eq_true rfl) ?_
  intro p e s m below meth c hx hb hr hml hown hlocks hts hin hA hP hK hD hG hS ls hl
  have hown : s.vm.findClass RX10 = some m.cls := hown
  have S0 : CallFix p m c cX10_add 6 s [.ref (q 0), .int p0, .int p1, .int p2, .int p3, .int p4].toArray (fz_ws yX10_add cX10_add 6 (some .int)) RX10 := ⟨hx, hb, hml, hown, hts⟩
  have hl : lv_has ls 6 [(0, .ref (q 0)), (1, .int p0), (2, .int p1), (3, .int p2), (4, .int p3), (5, .int p4)] := hl
  refine lv_aload_n hx hb dX10_add_0 rfl (lv_at hl 0 rfl) ?_
  refine lv_iconst (v := 1) hx hb dX10_add_1 (by decide) ?_
  refine lv_aload_n hx hb dX10_add_2 rfl (lv_at hl 0 rfl) ?_
  refine lv_iload_n hx hb dX10_add_3 rfl (lv_at hl 1 rfl) ?_
  refine fz_cVi (As := [.int p0]) (rest := [.int 1, .ref (q 0)]) S0 (m_isNode l A D k q f pa v p0 g_f_1_0 g_f_1_7) (fz_cwV (C := RX10) 1 hts fm_481 fm_482 fm_483 fm_484 fm_469 rfl rfl ⟨by decide, by decide, by decide +kernel⟩ ⟨Nat.le_of_ble_eq_true rfl, Nat.le_of_ble_eq_true rfl⟩) (va_recv hK hP (ci := 14) (q0 := 0) rfl rfl) (fun _ h9 => h9) (fun a9 h9 => hA a9 (Nat.le_trans hS.1 h9)) hG hS hP hK hD rfl hl.1 rfl (Nat.le_of_ble_eq_true rfl) dX10_add_4 ⟨Nat.le_of_ble_eq_true rfl, Nat.le_of_ble_eq_true rfl⟩ (fun r_1 u_1 H locs hw hz1 hk1 hP hS => ?_)
  have hP : va_P D vwCl (fz_WM k q f pa v) H := hP
  rcases (show (r_1 = 1 ∧ p0 = 0) ∨ (r_1 = 0 ∧ ¬ (p0 = 0)) from hw) with ⟨rfl, hq_1⟩ | ⟨rfl, hq_1⟩
  · skip
    obtain rfl : p0 = 0 := (fq_27 p0 hq_1)
    refine lv_if_ne (tgt := 14) hx hb dX10_add_7 (by decide) (fun c_2 => ?_) (fun c_2 => absurd c_2 (by decide))
    refine lv_iconst (v := 0) hx hb dX10_add_14 (by decide) ?_
    refine fz_cVi (As := [.int 1, .int 0]) (rest := []) S0 (m_fails0 l A D k q f pa v 1) (fz_cwV (C := RX10) 2 hts fm_553 fm_554 fm_555 fm_556 fm_469 rfl rfl ⟨by decide, by decide, by decide +kernel⟩ ⟨Nat.le_of_ble_eq_true rfl, Nat.le_of_ble_eq_true rfl⟩) (va_recv hK hP (ci := 14) (q0 := 0) rfl rfl) (fun _ h9 => h9) (fun a9 h9 => hA a9 (Nat.le_trans hS.1 h9)) hG hS hP hK hD rfl hl.1 rfl (Nat.le_of_ble_eq_true rfl) dX10_add_15 ⟨Nat.le_of_ble_eq_true rfl, Nat.le_of_ble_eq_true rfl⟩ (fun r_3 u_3 H locs hw hz1 hk1 hP hS => ?_)
    have hP : va_P D vwCl (fz_WM k q f pa (va_up v 0 0)) H := hP
    have hD : va_D A (fz_WM k q f pa (va_up v 0 0)) := fz_Dsame hD rfl
    obtain rfl : r_3 = 0 := hw
    refine lv_if_ne (tgt := 72) hx hb dX10_add_18 (by decide) (fun c_4 => absurd (by decide) c_4) (fun c_4 => ?_)
    refine lv_aload_n hx hb dX10_add_21 rfl (lv_at hl 0 rfl) ?_
    refine lv_iconst (v := 2) hx hb dX10_add_22 (by decide) ?_
    refine lv_aload_n hx hb dX10_add_23 rfl (lv_at hl 0 rfl) ?_
    refine lv_iload_n hx hb dX10_add_24 rfl (lv_at hl 1 rfl) ?_
    refine lv_iload_n hx hb dX10_add_25 rfl (lv_at hl 2 rfl) ?_
    refine lv_iload_n hx hb dX10_add_26 rfl (lv_at hl 3 rfl) ?_
    refine lv_iload hx hb dX10_add_27 (lv_at hl 4 rfl) ?_
    refine lv_iload hx hb dX10_add_29 (lv_at hl 5 rfl) ?_
    refine fz_cVi (As := [.int 0, .int p1, .int p2, .int p3, .int p4]) (rest := [.int 2, .ref (q 0)]) S0 (m_isGood l A D k q f pa (va_up v 0 0) p1 p2 p3 p4 g_f_1_8) (fz_cwV (C := RX10) 5 hts fm_557 fm_558 fm_559 fm_560 fm_469 rfl rfl ⟨by decide, by decide, by decide +kernel⟩ ⟨Nat.le_of_ble_eq_true rfl, Nat.le_of_ble_eq_true rfl⟩) (va_recv hK hP (ci := 14) (q0 := 0) rfl rfl) (fun _ h9 => h9) (fun a9 h9 => hA a9 (Nat.le_trans hS.1 h9)) hG hS hP hK hD rfl hl.1 rfl (Nat.le_of_ble_eq_true rfl) dX10_add_31 ⟨Nat.le_of_ble_eq_true rfl, Nat.le_of_ble_eq_true rfl⟩ (fun r_5 u_5 H locs hw hz1 hk1 hP hS => ?_)
    have hP : va_P D vwCl (fz_WM k q f pa (va_up v 0 0)) H := hP
    rcases (show (r_5 = 1 ∧ ((1 ≤ p1 ∧ p1 ≤ 3) ∧ 0 ≤ p2 ∧ ((p1 = 1 ∧ p2 ≤ 0) ∨ (¬ (p1 = 1) ∧ p2 ≤ 20)) ∧ (p3 = (-1) ∨ ((0 ≤ p3 ∧ p3 ≤ 9999) ∧ (0 ≤ p4 ∧ p4 ≤ 9999) ∧ p3 ≤ p4)))) ∨ (r_5 = 0 ∧ ¬ (((1 ≤ p1 ∧ p1 ≤ 3) ∧ 0 ≤ p2 ∧ ((p1 = 1 ∧ p2 ≤ 0) ∨ (¬ (p1 = 1) ∧ p2 ≤ 20)) ∧ (p3 = (-1) ∨ ((0 ≤ p3 ∧ p3 ≤ 9999) ∧ (0 ≤ p4 ∧ p4 ≤ 9999) ∧ p3 ≤ p4))))) from hw) with ⟨rfl, hq_5⟩ | ⟨rfl, hq_5⟩
    · skip
      refine lv_if_ne (tgt := 41) hx hb dX10_add_34 (by decide) (fun c_6 => ?_) (fun c_6 => absurd c_6 (by decide))
      refine lv_iconst (v := 0) hx hb dX10_add_41 (by decide) ?_
      refine fz_cVi (As := [.int 2, .int 0]) (rest := []) S0 (m_fails0 l A D k q f pa (va_up v 0 0) 2) (fz_cwV (C := RX10) 2 hts fm_553 fm_554 fm_555 fm_556 fm_469 rfl rfl ⟨by decide, by decide, by decide +kernel⟩ ⟨Nat.le_of_ble_eq_true rfl, Nat.le_of_ble_eq_true rfl⟩) (va_recv hK hP (ci := 14) (q0 := 0) rfl rfl) (fun _ h9 => h9) (fun a9 h9 => hA a9 (Nat.le_trans hS.1 h9)) hG hS hP hK hD rfl hl.1 rfl (Nat.le_of_ble_eq_true rfl) dX10_add_42 ⟨Nat.le_of_ble_eq_true rfl, Nat.le_of_ble_eq_true rfl⟩ (fun r_7 u_7 H locs hw hz1 hk1 hP hS => ?_)
      have hP : va_P D vwCl (fz_WM k q f pa (va_up v 0 0)) H := hP
      have hD : va_D A (fz_WM k q f pa (va_up v 0 0)) := fz_Dsame hD rfl
      obtain rfl : r_7 = 0 := hw
      refine lv_if_ne (tgt := 72) hx hb dX10_add_45 (by decide) (fun c_8 => absurd (by decide) c_8) (fun c_8 => ?_)
      refine lv_aload_n hx hb dX10_add_48 rfl (lv_at hl 0 rfl) ?_
      refine lv_iconst (v := 3) hx hb dX10_add_49 (by decide) ?_
      refine lv_aload_n hx hb dX10_add_50 rfl (lv_at hl 0 rfl) ?_
      refine va_get (D := D) (ci := 14) (v := .ref (q 1)) (C := RX10) (T := TX10) (N := 22) hx hb hts (fun w9 h9 => fz_m (fin_X10 w9 h9)) hown hK hP 0 rfl rfl 1 (by decide) (hts _ (fz_m fm_462)) (fun _ h9 => h9) rfl dX10_add_51 ?_
      refine lv_iconst (v := 0) hx hb dX10_add_54 (by decide) ?_
      refine va_iald hx hb hK hP 1 0 rfl rfl (fz_vin (by decide)) dX10_add_55 ?_
      refine fz_I (y := 1) g_f_1_0 ?_
      refine lv_bipush (v := 40) hx hb dX10_add_56 (by decide) ?_
      refine lv_icmp_ne (tgt := 65) hx hb dX10_add_58 (by decide) (fun c_9 => ?_) (fun c_9 => absurd c_9 (by decide))
      refine lv_iconst (v := 0) hx hb dX10_add_65 (by decide) ?_
      refine fz_cVi (As := [.int 3, .int 0]) (rest := []) S0 (m_fails0 l A D k q f pa (va_up v 0 0) 3) (fz_cwV (C := RX10) 2 hts fm_553 fm_554 fm_555 fm_556 fm_469 rfl rfl ⟨by decide, by decide, by decide +kernel⟩ ⟨Nat.le_of_ble_eq_true rfl, Nat.le_of_ble_eq_true rfl⟩) (va_recv hK hP (ci := 14) (q0 := 0) rfl rfl) (fun _ h9 => h9) (fun a9 h9 => hA a9 (Nat.le_trans hS.1 h9)) hG hS hP hK hD rfl hl.1 rfl (Nat.le_of_ble_eq_true rfl) dX10_add_66 ⟨Nat.le_of_ble_eq_true rfl, Nat.le_of_ble_eq_true rfl⟩ (fun r_10 u_10 H locs hw hz1 hk1 hP hS => ?_)
      have hP : va_P D vwCl (fz_WM k q f pa (va_up v 0 0)) H := hP
      have hD : va_D A (fz_WM k q f pa (va_up v 0 0)) := fz_Dsame hD rfl
      obtain rfl : r_10 = 0 := hw
      refine lv_if_eq (tgt := 74) hx hb dX10_add_69 (by decide) (fun c_11 => ?_) (fun c_11 => absurd (by decide) c_11)
      refine lv_aload_n hx hb dX10_add_74 rfl (lv_at hl 0 rfl) ?_
      refine fz_cVv (As := []) (rest := []) S0 (m_remember l A D k q f pa (va_up v 0 0) g_v_5 g_pb_0) (fz_cwV (C := RX10) 0 hts fm_561 fm_562 fm_563 fm_564 fm_469 rfl rfl ⟨by decide, by decide, by decide +kernel⟩ ⟨Nat.le_of_ble_eq_true rfl, Nat.le_of_ble_eq_true rfl⟩) (va_recv hK hP (ci := 14) (q0 := 0) rfl rfl) (fun _ h9 => h9) (fun a9 h9 => hA a9 (Nat.le_trans hS.1 h9)) hG hS hP hK hD rfl hl.1 rfl (Nat.le_of_ble_eq_true rfl) dX10_add_75 ⟨Nat.le_of_ble_eq_true rfl, Nat.le_of_ble_eq_true rfl⟩ (fun u_12 H locs hw hz1 hk1 hP hS => ?_)
      have hP : va_P D vwCl (fz_WM k q (va_up f 7 u_12) pa (va_up (va_up v 0 0) 5 1)) H := hP
      have hD : va_D A (fz_WM k q (va_up f 7 u_12) pa (va_up (va_up v 0 0) 5 1)) := fz_Dsame hD rfl
      refine lv_aload_n hx hb dX10_add_78 rfl (lv_at hl 0 rfl) ?_
      refine lv_iload_n hx hb dX10_add_79 rfl (lv_at hl 1 rfl) ?_
      refine lv_iload_n hx hb dX10_add_80 rfl (lv_at hl 2 rfl) ?_
      refine lv_iload_n hx hb dX10_add_81 rfl (lv_at hl 3 rfl) ?_
      refine lv_iload hx hb dX10_add_82 (lv_at hl 4 rfl) ?_
      refine lv_iload hx hb dX10_add_84 (lv_at hl 5 rfl) ?_
      refine fz_cVi (As := [.int 0, .int p1, .int p2, .int p3, .int p4]) (rest := []) S0 (m_makeNode1 l A D k q (va_up f 7 u_12) pa (va_up (va_up v 0 0) 5 1) p1 p2 p3 p4 g_f_1_0 g_f_1_1) (fz_cwV (C := RX10) 5 hts fm_565 fm_566 fm_567 fm_568 fm_469 rfl rfl ⟨by decide, by decide, by decide +kernel⟩ ⟨Nat.le_of_ble_eq_true rfl, Nat.le_of_ble_eq_true rfl⟩) (va_recv hK hP (ci := 14) (q0 := 0) rfl rfl) (fun _ h9 => h9) (fun a9 h9 => hA a9 (Nat.le_trans hS.1 h9)) hG hS hP hK hD rfl hl.1 rfl (Nat.le_of_ble_eq_true rfl) dX10_add_86 ⟨Nat.le_of_ble_eq_true rfl, Nat.le_of_ble_eq_true rfl⟩ (fun r_13 u_13 H locs hw hz1 hk1 hP hS => ?_)
      have hP : va_P D vwCl (fz_WM k q (va_up (va_up f 7 u_12) 1 u_13) pa (va_up (va_up v 0 0) 5 1)) H := hP
      have hD : va_D A (fz_WM k q (va_up (va_up f 7 u_12) 1 u_13) pa (va_up (va_up v 0 0) 5 1)) := fz_Dsame hD rfl
      obtain rfl : r_13 = 1 := hw
      have hP : va_P D vwCl (fz_MO q (va_up (va_up v 0 0) 5 1)) H := hP.sub [0] rfl
      exact fz_iret hx hb hr rfl hlocks hS dX10_add_89 (va_up (va_up v 0 0) 5 1) (Or.inr (Or.inr ⟨rfl, rfl, (fq_82 p1 p2 p3 p4 hq_5)⟩)) hP (Nat.le_of_ble_eq_true rfl) (Nat.le_of_ble_eq_true rfl)
    · skip
      refine lv_if_ne (tgt := 41) hx hb dX10_add_34 (by decide) (fun c_14 => absurd (by decide) c_14) (fun c_14 => ?_)
      refine lv_iconst (v := 1) hx hb dX10_add_37 (by decide) ?_
      refine lv_goto (tgt := 42) hx hb dX10_add_38 (by decide) ?_
      refine fz_cVi (As := [.int 2, .int 1]) (rest := []) S0 (m_fails1 l A D k q f pa (va_up v 0 0) 2) (fz_cwV (C := RX10) 2 hts fm_553 fm_554 fm_555 fm_556 fm_469 rfl rfl ⟨by decide, by decide, by decide +kernel⟩ ⟨Nat.le_of_ble_eq_true rfl, Nat.le_of_ble_eq_true rfl⟩) (va_recv hK hP (ci := 14) (q0 := 0) rfl rfl) (fun _ h9 => h9) (fun a9 h9 => hA a9 (Nat.le_trans hS.1 h9)) hG hS hP hK hD rfl hl.1 rfl (Nat.le_of_ble_eq_true rfl) dX10_add_42 ⟨Nat.le_of_ble_eq_true rfl, Nat.le_of_ble_eq_true rfl⟩ (fun r_15 u_15 H locs hw hz1 hk1 hP hS => ?_)
      have hP : va_P D vwCl (fz_WM k q f pa (va_up v 0 2)) H := hP
      have hD : va_D A (fz_WM k q f pa (va_up v 0 2)) := fz_Dsame hD rfl
      obtain rfl : r_15 = 1 := hw
      refine lv_if_ne (tgt := 72) hx hb dX10_add_45 (by decide) (fun c_16 => ?_) (fun c_16 => absurd c_16 (by decide))
      refine lv_iconst (v := 0) hx hb dX10_add_72 (by decide) ?_
      have hP : va_P D vwCl (fz_MO q (va_up v 0 2)) H := hP.sub [0] rfl
      exact fz_iret hx hb hr rfl hlocks hS dX10_add_73 (va_up v 0 2) (Or.inr (Or.inl ⟨rfl, rfl, (fq_83 p1 p2 p3 p4 hq_5)⟩)) hP (Nat.le_of_ble_eq_true rfl) (Nat.le_of_ble_eq_true rfl)
  · skip
    refine lv_if_ne (tgt := 14) hx hb dX10_add_7 (by decide) (fun c_17 => absurd (by decide) c_17) (fun c_17 => ?_)
    refine lv_iconst (v := 1) hx hb dX10_add_10 (by decide) ?_
    refine lv_goto (tgt := 15) hx hb dX10_add_11 (by decide) ?_
    refine fz_cVi (As := [.int 1, .int 1]) (rest := []) S0 (m_fails1 l A D k q f pa v 1) (fz_cwV (C := RX10) 2 hts fm_553 fm_554 fm_555 fm_556 fm_469 rfl rfl ⟨by decide, by decide, by decide +kernel⟩ ⟨Nat.le_of_ble_eq_true rfl, Nat.le_of_ble_eq_true rfl⟩) (va_recv hK hP (ci := 14) (q0 := 0) rfl rfl) (fun _ h9 => h9) (fun a9 h9 => hA a9 (Nat.le_trans hS.1 h9)) hG hS hP hK hD rfl hl.1 rfl (Nat.le_of_ble_eq_true rfl) dX10_add_15 ⟨Nat.le_of_ble_eq_true rfl, Nat.le_of_ble_eq_true rfl⟩ (fun r_18 u_18 H locs hw hz1 hk1 hP hS => ?_)
    have hP : va_P D vwCl (fz_WM k q f pa (va_up v 0 1)) H := hP
    have hD : va_D A (fz_WM k q f pa (va_up v 0 1)) := fz_Dsame hD rfl
    obtain rfl : r_18 = 1 := hw
    refine lv_if_ne (tgt := 72) hx hb dX10_add_18 (by decide) (fun c_19 => ?_) (fun c_19 => absurd c_19 (by decide))
    refine lv_iconst (v := 0) hx hb dX10_add_72 (by decide) ?_
    have hP : va_P D vwCl (fz_MO q (va_up v 0 1)) H := hP.sub [0] rfl
    exact fz_iret hx hb hr rfl hlocks hS dX10_add_73 (va_up v 0 1) (Or.inl ⟨rfl, rfl, (fq_28 p0 hq_1)⟩) hP (Nat.le_of_ble_eq_true rfl) (Nat.le_of_ble_eq_true rfl)

set_option maxHeartbeats 4000000 in
set_option maxRecDepth 100000 in
theorem m_p_remove (l : Launch) (A : Nat → Prop) (D : va_G) (k : Nat → ClassId) (q : Nat → Nat) (f : Nat → Nat → Int32) (pa : Nat → Option Nat) (v : Nat → Int32) (p0 : Int32) (g_f_1_0 : f 1 0 = 1) (g_f_1_7 : f 1 7 = 1)  :
    Met l yX10_remove (fz_ws yX10_remove cX10_remove 4 (some .int)) { frames := 24, cells := 0, slots := 0, locals := 320 } (va_Pc [.ref (q 0), .int p0] (fz_PC A D (fz_tys k) (fz_WM k q f pa v))) (fz_QI D A (fun (u : Nat → Int32) => fz_MO q u) (fun (r : Int32) (u : Nat → Int32) => (r = 0 ∧ u 0 = 1 ∧ ¬ (p0 = 0)) ∨ (r = 0 ∧ u 0 = 2 ∧ p0 = 0))) 0 0 A := by
  refine fz_of (by decide +kernel) (Nat.le_of_ble_eq_true rfl) ?_
  intro p e s m below meth c hx hb hr hml hown hlocks hts hin hA hP hK hD hG hS ls hl
  have hown : s.vm.findClass RX10 = some m.cls := hown
  have S0 : CallFix p m c cX10_remove 4 s [.ref (q 0), .int p0].toArray (fz_ws yX10_remove cX10_remove 4 (some .int)) RX10 := ⟨hx, hb, hml, hown, hts⟩
  have hl : lv_has ls 4 [(0, .ref (q 0)), (1, .int p0)] := hl
  refine lv_aload_n hx hb dX10_remove_0 rfl (lv_at hl 0 rfl) ?_
  refine lv_iconst (v := 1) hx hb dX10_remove_1 (by decide) ?_
  refine lv_aload_n hx hb dX10_remove_2 rfl (lv_at hl 0 rfl) ?_
  refine lv_iload_n hx hb dX10_remove_3 rfl (lv_at hl 1 rfl) ?_
  refine fz_cVi (As := [.int p0]) (rest := [.int 1, .ref (q 0)]) S0 (m_isNode l A D k q f pa v p0 g_f_1_0 g_f_1_7) (fz_cwV (C := RX10) 1 hts fm_481 fm_482 fm_483 fm_484 fm_469 rfl rfl ⟨by decide, by decide, by decide +kernel⟩ ⟨Nat.le_of_ble_eq_true rfl, Nat.le_of_ble_eq_true rfl⟩) (va_recv hK hP (ci := 14) (q0 := 0) rfl rfl) (fun _ h9 => h9) (fun a9 h9 => hA a9 (Nat.le_trans hS.1 h9)) hG hS hP hK hD rfl hl.1 rfl (Nat.le_of_ble_eq_true rfl) dX10_remove_4 ⟨Nat.le_of_ble_eq_true rfl, Nat.le_of_ble_eq_true rfl⟩ (fun r_1 u_1 H locs hw hz1 hk1 hP hS => ?_)
  have hP : va_P D vwCl (fz_WM k q f pa v) H := hP
  rcases (show (r_1 = 1 ∧ p0 = 0) ∨ (r_1 = 0 ∧ ¬ (p0 = 0)) from hw) with ⟨rfl, hq_1⟩ | ⟨rfl, hq_1⟩
  · skip
    obtain rfl : p0 = 0 := (fq_27 p0 hq_1)
    refine lv_if_ne (tgt := 14) hx hb dX10_remove_7 (by decide) (fun c_2 => ?_) (fun c_2 => absurd c_2 (by decide))
    refine lv_iconst (v := 0) hx hb dX10_remove_14 (by decide) ?_
    refine fz_cVi (As := [.int 1, .int 0]) (rest := []) S0 (m_fails0 l A D k q f pa v 1) (fz_cwV (C := RX10) 2 hts fm_553 fm_554 fm_555 fm_556 fm_469 rfl rfl ⟨by decide, by decide, by decide +kernel⟩ ⟨Nat.le_of_ble_eq_true rfl, Nat.le_of_ble_eq_true rfl⟩) (va_recv hK hP (ci := 14) (q0 := 0) rfl rfl) (fun _ h9 => h9) (fun a9 h9 => hA a9 (Nat.le_trans hS.1 h9)) hG hS hP hK hD rfl hl.1 rfl (Nat.le_of_ble_eq_true rfl) dX10_remove_15 ⟨Nat.le_of_ble_eq_true rfl, Nat.le_of_ble_eq_true rfl⟩ (fun r_3 u_3 H locs hw hz1 hk1 hP hS => ?_)
    have hP : va_P D vwCl (fz_WM k q f pa (va_up v 0 0)) H := hP
    have hD : va_D A (fz_WM k q f pa (va_up v 0 0)) := fz_Dsame hD rfl
    obtain rfl : r_3 = 0 := hw
    refine lv_if_ne (tgt := 38) hx hb dX10_remove_18 (by decide) (fun c_4 => absurd (by decide) c_4) (fun c_4 => ?_)
    refine lv_aload_n hx hb dX10_remove_21 rfl (lv_at hl 0 rfl) ?_
    refine lv_iconst (v := 2) hx hb dX10_remove_22 (by decide) ?_
    refine lv_iload_n hx hb dX10_remove_23 rfl (lv_at hl 1 rfl) ?_
    refine lv_if_ne (tgt := 31) hx hb dX10_remove_24 (by decide) (fun c_5 => absurd (by decide) c_5) (fun c_5 => ?_)
    refine lv_iconst (v := 1) hx hb dX10_remove_27 (by decide) ?_
    refine lv_goto (tgt := 32) hx hb dX10_remove_28 (by decide) ?_
    refine fz_cVi (As := [.int 2, .int 1]) (rest := []) S0 (m_fails1 l A D k q f pa (va_up v 0 0) 2) (fz_cwV (C := RX10) 2 hts fm_553 fm_554 fm_555 fm_556 fm_469 rfl rfl ⟨by decide, by decide, by decide +kernel⟩ ⟨Nat.le_of_ble_eq_true rfl, Nat.le_of_ble_eq_true rfl⟩) (va_recv hK hP (ci := 14) (q0 := 0) rfl rfl) (fun _ h9 => h9) (fun a9 h9 => hA a9 (Nat.le_trans hS.1 h9)) hG hS hP hK hD rfl hl.1 rfl (Nat.le_of_ble_eq_true rfl) dX10_remove_32 ⟨Nat.le_of_ble_eq_true rfl, Nat.le_of_ble_eq_true rfl⟩ (fun r_6 u_6 H locs hw hz1 hk1 hP hS => ?_)
    have hP : va_P D vwCl (fz_WM k q f pa (va_up v 0 2)) H := hP
    have hD : va_D A (fz_WM k q f pa (va_up v 0 2)) := fz_Dsame hD rfl
    obtain rfl : r_6 = 1 := hw
    refine lv_if_eq (tgt := 40) hx hb dX10_remove_35 (by decide) (fun c_7 => absurd c_7 (by decide)) (fun c_7 => ?_)
    refine lv_iconst (v := 0) hx hb dX10_remove_38 (by decide) ?_
    have hP : va_P D vwCl (fz_MO q (va_up v 0 2)) H := hP.sub [0] rfl
    exact fz_iret hx hb hr rfl hlocks hS dX10_remove_39 (va_up v 0 2) (Or.inr ⟨rfl, rfl, (fq_3 )⟩) hP (Nat.le_of_ble_eq_true rfl) (Nat.le_of_ble_eq_true rfl)
  · skip
    refine lv_if_ne (tgt := 14) hx hb dX10_remove_7 (by decide) (fun c_8 => absurd (by decide) c_8) (fun c_8 => ?_)
    refine lv_iconst (v := 1) hx hb dX10_remove_10 (by decide) ?_
    refine lv_goto (tgt := 15) hx hb dX10_remove_11 (by decide) ?_
    refine fz_cVi (As := [.int 1, .int 1]) (rest := []) S0 (m_fails1 l A D k q f pa v 1) (fz_cwV (C := RX10) 2 hts fm_553 fm_554 fm_555 fm_556 fm_469 rfl rfl ⟨by decide, by decide, by decide +kernel⟩ ⟨Nat.le_of_ble_eq_true rfl, Nat.le_of_ble_eq_true rfl⟩) (va_recv hK hP (ci := 14) (q0 := 0) rfl rfl) (fun _ h9 => h9) (fun a9 h9 => hA a9 (Nat.le_trans hS.1 h9)) hG hS hP hK hD rfl hl.1 rfl (Nat.le_of_ble_eq_true rfl) dX10_remove_15 ⟨Nat.le_of_ble_eq_true rfl, Nat.le_of_ble_eq_true rfl⟩ (fun r_9 u_9 H locs hw hz1 hk1 hP hS => ?_)
    have hP : va_P D vwCl (fz_WM k q f pa (va_up v 0 1)) H := hP
    have hD : va_D A (fz_WM k q f pa (va_up v 0 1)) := fz_Dsame hD rfl
    obtain rfl : r_9 = 1 := hw
    refine lv_if_ne (tgt := 38) hx hb dX10_remove_18 (by decide) (fun c_10 => ?_) (fun c_10 => absurd c_10 (by decide))
    refine lv_iconst (v := 0) hx hb dX10_remove_38 (by decide) ?_
    have hP : va_P D vwCl (fz_MO q (va_up v 0 1)) H := hP.sub [0] rfl
    exact fz_iret hx hb hr rfl hlocks hS dX10_remove_39 (va_up v 0 1) (Or.inl ⟨rfl, rfl, (fq_28 p0 hq_1)⟩) hP (Nat.le_of_ble_eq_true rfl) (Nat.le_of_ble_eq_true rfl)

set_option maxHeartbeats 4000000 in
set_option maxRecDepth 100000 in
theorem m_p_move (l : Launch) (A : Nat → Prop) (D : va_G) (k : Nat → ClassId) (q : Nat → Nat) (f : Nat → Nat → Int32) (pa : Nat → Option Nat) (v : Nat → Int32) (p0 p1 : Int32) (g_f_1_0 : f 1 0 = 1) (g_f_1_7 : f 1 7 = 1)  :
    Met l yX10_move (fz_ws yX10_move cX10_move 4 (some .int)) { frames := 24, cells := 0, slots := 0, locals := 320 } (va_Pc [.ref (q 0), .int p0, .int p1] (fz_PC A D (fz_tys k) (fz_WM k q f pa v))) (fz_QI D A (fun (u : Nat → Int32) => fz_MO q u) (fun (r : Int32) (u : Nat → Int32) => (r = 0 ∧ u 0 = 1 ∧ (¬ (p0 = 0) ∨ ¬ (p1 = 0))) ∨ (r = 0 ∧ u 0 = 2 ∧ (p0 = 0 ∧ p1 = 0)))) 0 0 A := by
  refine fz_of (by decide +kernel) (Nat.le_of_ble_eq_true rfl) ?_
  intro p e s m below meth c hx hb hr hml hown hlocks hts hin hA hP hK hD hG hS ls hl
  have hown : s.vm.findClass RX10 = some m.cls := hown
  have S0 : CallFix p m c cX10_move 4 s [.ref (q 0), .int p0, .int p1].toArray (fz_ws yX10_move cX10_move 4 (some .int)) RX10 := ⟨hx, hb, hml, hown, hts⟩
  have hl : lv_has ls 4 [(0, .ref (q 0)), (1, .int p0), (2, .int p1)] := hl
  refine lv_aload_n hx hb dX10_move_0 rfl (lv_at hl 0 rfl) ?_
  refine lv_iconst (v := 1) hx hb dX10_move_1 (by decide) ?_
  refine lv_aload_n hx hb dX10_move_2 rfl (lv_at hl 0 rfl) ?_
  refine lv_iload_n hx hb dX10_move_3 rfl (lv_at hl 1 rfl) ?_
  refine fz_cVi (As := [.int p0]) (rest := [.int 1, .ref (q 0)]) S0 (m_isNode l A D k q f pa v p0 g_f_1_0 g_f_1_7) (fz_cwV (C := RX10) 1 hts fm_481 fm_482 fm_483 fm_484 fm_469 rfl rfl ⟨by decide, by decide, by decide +kernel⟩ ⟨Nat.le_of_ble_eq_true rfl, Nat.le_of_ble_eq_true rfl⟩) (va_recv hK hP (ci := 14) (q0 := 0) rfl rfl) (fun _ h9 => h9) (fun a9 h9 => hA a9 (Nat.le_trans hS.1 h9)) hG hS hP hK hD rfl hl.1 rfl (Nat.le_of_ble_eq_true rfl) dX10_move_4 ⟨Nat.le_of_ble_eq_true rfl, Nat.le_of_ble_eq_true rfl⟩ (fun r_1 u_1 H locs hw hz1 hk1 hP hS => ?_)
  have hP : va_P D vwCl (fz_WM k q f pa v) H := hP
  rcases (show (r_1 = 1 ∧ p0 = 0) ∨ (r_1 = 0 ∧ ¬ (p0 = 0)) from hw) with ⟨rfl, hq_1⟩ | ⟨rfl, hq_1⟩
  · skip
    obtain rfl : p0 = 0 := (fq_27 p0 hq_1)
    refine lv_if_eq (tgt := 18) hx hb dX10_move_7 (by decide) (fun c_2 => absurd c_2 (by decide)) (fun c_2 => ?_)
    refine lv_aload_n hx hb dX10_move_10 rfl (lv_at hl 0 rfl) ?_
    refine lv_iload_n hx hb dX10_move_11 rfl (lv_at hl 2 rfl) ?_
    refine fz_cVi (As := [.int p1]) (rest := [.int 1, .ref (q 0)]) S0 (m_isNode l A D k q f pa v p1 g_f_1_0 g_f_1_7) (fz_cwV (C := RX10) 1 hts fm_481 fm_482 fm_483 fm_484 fm_469 rfl rfl ⟨by decide, by decide, by decide +kernel⟩ ⟨Nat.le_of_ble_eq_true rfl, Nat.le_of_ble_eq_true rfl⟩) (va_recv hK hP (ci := 14) (q0 := 0) rfl rfl) (fun _ h9 => h9) (fun a9 h9 => hA a9 (Nat.le_trans hS.1 h9)) hG hS hP hK hD rfl hl.1 rfl (Nat.le_of_ble_eq_true rfl) dX10_move_12 ⟨Nat.le_of_ble_eq_true rfl, Nat.le_of_ble_eq_true rfl⟩ (fun r_3 u_3 H locs hw hz1 hk1 hP hS => ?_)
    have hP : va_P D vwCl (fz_WM k q f pa v) H := hP
    rcases (show (r_3 = 1 ∧ p1 = 0) ∨ (r_3 = 0 ∧ ¬ (p1 = 0)) from hw) with ⟨rfl, hq_3⟩ | ⟨rfl, hq_3⟩
    · skip
      obtain rfl : p1 = 0 := (fq_27 p1 hq_3)
      refine lv_if_ne (tgt := 22) hx hb dX10_move_15 (by decide) (fun c_4 => ?_) (fun c_4 => absurd c_4 (by decide))
      refine lv_iconst (v := 0) hx hb dX10_move_22 (by decide) ?_
      refine fz_cVi (As := [.int 1, .int 0]) (rest := []) S0 (m_fails0 l A D k q f pa v 1) (fz_cwV (C := RX10) 2 hts fm_553 fm_554 fm_555 fm_556 fm_469 rfl rfl ⟨by decide, by decide, by decide +kernel⟩ ⟨Nat.le_of_ble_eq_true rfl, Nat.le_of_ble_eq_true rfl⟩) (va_recv hK hP (ci := 14) (q0 := 0) rfl rfl) (fun _ h9 => h9) (fun a9 h9 => hA a9 (Nat.le_trans hS.1 h9)) hG hS hP hK hD rfl hl.1 rfl (Nat.le_of_ble_eq_true rfl) dX10_move_23 ⟨Nat.le_of_ble_eq_true rfl, Nat.le_of_ble_eq_true rfl⟩ (fun r_5 u_5 H locs hw hz1 hk1 hP hS => ?_)
      have hP : va_P D vwCl (fz_WM k q f pa (va_up v 0 0)) H := hP
      have hD : va_D A (fz_WM k q f pa (va_up v 0 0)) := fz_Dsame hD rfl
      obtain rfl : r_5 = 0 := hw
      refine lv_if_ne (tgt := 70) hx hb dX10_move_26 (by decide) (fun c_6 => absurd (by decide) c_6) (fun c_6 => ?_)
      refine lv_aload_n hx hb dX10_move_29 rfl (lv_at hl 0 rfl) ?_
      refine lv_iconst (v := 2) hx hb dX10_move_30 (by decide) ?_
      refine lv_iload_n hx hb dX10_move_31 rfl (lv_at hl 1 rfl) ?_
      refine lv_if_eq (tgt := 59) hx hb dX10_move_32 (by decide) (fun c_7 => ?_) (fun c_7 => absurd (by decide) c_7)
      refine lv_iconst (v := 1) hx hb dX10_move_59 (by decide) ?_
      refine lv_goto (tgt := 64) hx hb dX10_move_60 (by decide) ?_
      refine fz_cVi (As := [.int 2, .int 1]) (rest := []) S0 (m_fails1 l A D k q f pa (va_up v 0 0) 2) (fz_cwV (C := RX10) 2 hts fm_553 fm_554 fm_555 fm_556 fm_469 rfl rfl ⟨by decide, by decide, by decide +kernel⟩ ⟨Nat.le_of_ble_eq_true rfl, Nat.le_of_ble_eq_true rfl⟩) (va_recv hK hP (ci := 14) (q0 := 0) rfl rfl) (fun _ h9 => h9) (fun a9 h9 => hA a9 (Nat.le_trans hS.1 h9)) hG hS hP hK hD rfl hl.1 rfl (Nat.le_of_ble_eq_true rfl) dX10_move_64 ⟨Nat.le_of_ble_eq_true rfl, Nat.le_of_ble_eq_true rfl⟩ (fun r_8 u_8 H locs hw hz1 hk1 hP hS => ?_)
      have hP : va_P D vwCl (fz_WM k q f pa (va_up v 0 2)) H := hP
      have hD : va_D A (fz_WM k q f pa (va_up v 0 2)) := fz_Dsame hD rfl
      obtain rfl : r_8 = 1 := hw
      refine lv_if_eq (tgt := 72) hx hb dX10_move_67 (by decide) (fun c_9 => absurd c_9 (by decide)) (fun c_9 => ?_)
      refine lv_iconst (v := 0) hx hb dX10_move_70 (by decide) ?_
      have hP : va_P D vwCl (fz_MO q (va_up v 0 2)) H := hP.sub [0] rfl
      exact fz_iret hx hb hr rfl hlocks hS dX10_move_71 (va_up v 0 2) (Or.inr ⟨rfl, rfl, (fq_40 )⟩) hP (Nat.le_of_ble_eq_true rfl) (Nat.le_of_ble_eq_true rfl)
    · skip
      refine lv_if_ne (tgt := 22) hx hb dX10_move_15 (by decide) (fun c_10 => absurd (by decide) c_10) (fun c_10 => ?_)
      refine lv_iconst (v := 1) hx hb dX10_move_18 (by decide) ?_
      refine lv_goto (tgt := 23) hx hb dX10_move_19 (by decide) ?_
      refine fz_cVi (As := [.int 1, .int 1]) (rest := []) S0 (m_fails1 l A D k q f pa v 1) (fz_cwV (C := RX10) 2 hts fm_553 fm_554 fm_555 fm_556 fm_469 rfl rfl ⟨by decide, by decide, by decide +kernel⟩ ⟨Nat.le_of_ble_eq_true rfl, Nat.le_of_ble_eq_true rfl⟩) (va_recv hK hP (ci := 14) (q0 := 0) rfl rfl) (fun _ h9 => h9) (fun a9 h9 => hA a9 (Nat.le_trans hS.1 h9)) hG hS hP hK hD rfl hl.1 rfl (Nat.le_of_ble_eq_true rfl) dX10_move_23 ⟨Nat.le_of_ble_eq_true rfl, Nat.le_of_ble_eq_true rfl⟩ (fun r_11 u_11 H locs hw hz1 hk1 hP hS => ?_)
      have hP : va_P D vwCl (fz_WM k q f pa (va_up v 0 1)) H := hP
      have hD : va_D A (fz_WM k q f pa (va_up v 0 1)) := fz_Dsame hD rfl
      obtain rfl : r_11 = 1 := hw
      refine lv_if_ne (tgt := 70) hx hb dX10_move_26 (by decide) (fun c_12 => ?_) (fun c_12 => absurd c_12 (by decide))
      refine lv_iconst (v := 0) hx hb dX10_move_70 (by decide) ?_
      have hP : va_P D vwCl (fz_MO q (va_up v 0 1)) H := hP.sub [0] rfl
      exact fz_iret hx hb hr rfl hlocks hS dX10_move_71 (va_up v 0 1) (Or.inl ⟨rfl, rfl, (fq_39 p1 hq_3)⟩) hP (Nat.le_of_ble_eq_true rfl) (Nat.le_of_ble_eq_true rfl)
  · skip
    refine lv_if_eq (tgt := 18) hx hb dX10_move_7 (by decide) (fun c_13 => ?_) (fun c_13 => absurd (by decide) c_13)
    refine lv_iconst (v := 1) hx hb dX10_move_18 (by decide) ?_
    refine lv_goto (tgt := 23) hx hb dX10_move_19 (by decide) ?_
    refine fz_cVi (As := [.int 1, .int 1]) (rest := []) S0 (m_fails1 l A D k q f pa v 1) (fz_cwV (C := RX10) 2 hts fm_553 fm_554 fm_555 fm_556 fm_469 rfl rfl ⟨by decide, by decide, by decide +kernel⟩ ⟨Nat.le_of_ble_eq_true rfl, Nat.le_of_ble_eq_true rfl⟩) (va_recv hK hP (ci := 14) (q0 := 0) rfl rfl) (fun _ h9 => h9) (fun a9 h9 => hA a9 (Nat.le_trans hS.1 h9)) hG hS hP hK hD rfl hl.1 rfl (Nat.le_of_ble_eq_true rfl) dX10_move_23 ⟨Nat.le_of_ble_eq_true rfl, Nat.le_of_ble_eq_true rfl⟩ (fun r_14 u_14 H locs hw hz1 hk1 hP hS => ?_)
    have hP : va_P D vwCl (fz_WM k q f pa (va_up v 0 1)) H := hP
    have hD : va_D A (fz_WM k q f pa (va_up v 0 1)) := fz_Dsame hD rfl
    obtain rfl : r_14 = 1 := hw
    refine lv_if_ne (tgt := 70) hx hb dX10_move_26 (by decide) (fun c_15 => ?_) (fun c_15 => absurd c_15 (by decide))
    refine lv_iconst (v := 0) hx hb dX10_move_70 (by decide) ?_
    have hP : va_P D vwCl (fz_MO q (va_up v 0 1)) H := hP.sub [0] rfl
    exact fz_iret hx hb hr rfl hlocks hS dX10_move_71 (va_up v 0 1) (Or.inl ⟨rfl, rfl, (fq_38 p0 p1 hq_1)⟩) hP (Nat.le_of_ble_eq_true rfl) (Nat.le_of_ble_eq_true rfl)

set_option maxHeartbeats 4000000 in
set_option maxRecDepth 100000 in
theorem m_p_node (l : Launch) (A : Nat → Prop) (D : va_G) (k : Nat → ClassId) (q : Nat → Nat) (f : Nat → Nat → Int32) (pa : Nat → Option Nat) (v : Nat → Int32) (p0 p1 : Int32) (g_f_1_0 : f 1 0 = 1) (g_f_1_7 : f 1 7 = 1) (g_f_1_8 : f 1 8 = 0) (g_f_1_9 : f 1 9 = (-1)) (g_f_1_10 : f 1 10 = 0) (g_f_1_11 : f 1 11 = (-1)) (g_f_1_12 : f 1 12 = (-1)) (g_f_1_15 : f 1 15 = (-1)) (g_f_1_16 : f 1 16 = (-1)) (g_f_1_3 : f 1 3 = 0)  :
    Met l yX10_node (fz_ws yX10_node cX10_node 3 (some .int)) { frames := 36, cells := 0, slots := 0, locals := 480 } (va_Pc [.ref (q 0), .int p0, .int p1] (fz_PC A D (fz_tys k) (fz_WM k q f pa v))) (fz_QI D A (fun (u : Nat → Int32) => fz_MO q u) (fun (r : Int32) (u : Nat → Int32) => (r = 0 ∧ u 0 = 1 ∧ ¬ (p0 = 0)) ∨ (r = 0 ∧ u 0 = 2 ∧ (p0 = 0 ∧ ¬ ((0 ≤ p1 ∧ p1 ≤ 11)))) ∨ (r = 0 ∧ u 0 = 0 ∧ (p0 = 0 ∧ p1 = 0)) ∨ (r = (-1) ∧ u 0 = 0 ∧ (p0 = 0 ∧ p1 = 1)) ∨ (r = 0 ∧ u 0 = 0 ∧ (p0 = 0 ∧ p1 = 2)) ∨ (r = (-1) ∧ u 0 = 0 ∧ (p0 = 0 ∧ (3 ≤ p1 ∧ p1 ≤ 5))) ∨ (r = 0 ∧ u 0 = 0 ∧ (p0 = 0 ∧ (6 ≤ p1 ∧ p1 ≤ 8))) ∨ (r = (-1) ∧ u 0 = 0 ∧ (p0 = 0 ∧ (9 ≤ p1 ∧ p1 ≤ 10))) ∨ (r = 0 ∧ u 0 = 0 ∧ (p0 = 0 ∧ p1 = 11)))) 0 0 A := by
  refine fz_of (by decide +kernel) (Nat.le_of_ble_eq_true rfl) ?_
  intro p e s m below meth c hx hb hr hml hown hlocks hts hin hA hP hK hD hG hS ls hl
  have hown : s.vm.findClass RX10 = some m.cls := hown
  have S0 : CallFix p m c cX10_node 3 s [.ref (q 0), .int p0, .int p1].toArray (fz_ws yX10_node cX10_node 3 (some .int)) RX10 := ⟨hx, hb, hml, hown, hts⟩
  have hl : lv_has ls 3 [(0, .ref (q 0)), (1, .int p0), (2, .int p1)] := hl
  refine lv_aload_n hx hb dX10_node_0 rfl (lv_at hl 0 rfl) ?_
  refine lv_iconst (v := 1) hx hb dX10_node_1 (by decide) ?_
  refine lv_aload_n hx hb dX10_node_2 rfl (lv_at hl 0 rfl) ?_
  refine lv_iload_n hx hb dX10_node_3 rfl (lv_at hl 1 rfl) ?_
  refine fz_cVi (As := [.int p0]) (rest := [.int 1, .ref (q 0)]) S0 (m_isNode l A D k q f pa v p0 g_f_1_0 g_f_1_7) (fz_cwV (C := RX10) 1 hts fm_481 fm_482 fm_483 fm_484 fm_469 rfl rfl ⟨by decide, by decide, by decide +kernel⟩ ⟨Nat.le_of_ble_eq_true rfl, Nat.le_of_ble_eq_true rfl⟩) (va_recv hK hP (ci := 14) (q0 := 0) rfl rfl) (fun _ h9 => h9) (fun a9 h9 => hA a9 (Nat.le_trans hS.1 h9)) hG hS hP hK hD rfl hl.1 rfl (Nat.le_of_ble_eq_true rfl) dX10_node_4 ⟨Nat.le_of_ble_eq_true rfl, Nat.le_of_ble_eq_true rfl⟩ (fun r_1 u_1 H locs hw hz1 hk1 hP hS => ?_)
  have hP : va_P D vwCl (fz_WM k q f pa v) H := hP
  rcases (show (r_1 = 1 ∧ p0 = 0) ∨ (r_1 = 0 ∧ ¬ (p0 = 0)) from hw) with ⟨rfl, hq_1⟩ | ⟨rfl, hq_1⟩
  · skip
    obtain rfl : p0 = 0 := (fq_27 p0 hq_1)
    refine lv_if_ne (tgt := 14) hx hb dX10_node_7 (by decide) (fun c_2 => ?_) (fun c_2 => absurd c_2 (by decide))
    refine lv_iconst (v := 0) hx hb dX10_node_14 (by decide) ?_
    refine fz_cVi (As := [.int 1, .int 0]) (rest := []) S0 (m_fails0 l A D k q f pa v 1) (fz_cwV (C := RX10) 2 hts fm_553 fm_554 fm_555 fm_556 fm_469 rfl rfl ⟨by decide, by decide, by decide +kernel⟩ ⟨Nat.le_of_ble_eq_true rfl, Nat.le_of_ble_eq_true rfl⟩) (va_recv hK hP (ci := 14) (q0 := 0) rfl rfl) (fun _ h9 => h9) (fun a9 h9 => hA a9 (Nat.le_trans hS.1 h9)) hG hS hP hK hD rfl hl.1 rfl (Nat.le_of_ble_eq_true rfl) dX10_node_15 ⟨Nat.le_of_ble_eq_true rfl, Nat.le_of_ble_eq_true rfl⟩ (fun r_3 u_3 H locs hw hz1 hk1 hP hS => ?_)
    have hP : va_P D vwCl (fz_WM k q f pa (va_up v 0 0)) H := hP
    have hD : va_D A (fz_WM k q f pa (va_up v 0 0)) := fz_Dsame hD rfl
    obtain rfl : r_3 = 0 := hw
    refine lv_if_ne (tgt := 44) hx hb dX10_node_18 (by decide) (fun c_4 => absurd (by decide) c_4) (fun c_4 => ?_)
    refine lv_aload_n hx hb dX10_node_21 rfl (lv_at hl 0 rfl) ?_
    refine lv_iconst (v := 2) hx hb dX10_node_22 (by decide) ?_
    refine lv_iload_n hx hb dX10_node_23 rfl (lv_at hl 2 rfl) ?_
    refine lv_iconst (v := 0) hx hb dX10_node_24 (by decide) ?_
    refine lv_bipush (v := 11) hx hb dX10_node_25 (by decide) ?_
    refine fz_cSi (As := [.int p1, .int 0, .int 11]) (rest := [.int 2, .ref (q 0)]) S0 (m_isBetween l A D k q f pa (va_up v 0 0) p1 0 11) (fz_cwS 3 hts fm_474 fm_475 fm_476 fm_469 rfl rfl ⟨by decide, by decide, by decide +kernel⟩ ⟨Nat.le_of_ble_eq_true rfl, Nat.le_of_ble_eq_true rfl⟩) (fun _ h9 => h9) (fun a9 h9 => hA a9 (Nat.le_trans hS.1 h9)) hG hS hP hK hD rfl hl.1 rfl (Nat.le_of_ble_eq_true rfl) dX10_node_27 ⟨Nat.le_of_ble_eq_true rfl, Nat.le_of_ble_eq_true rfl⟩ (fun r_5 u_5 H locs hw hz1 hk1 hP hS => ?_)
    have hP : va_P D vwCl (fz_WM k q f pa (va_up v 0 0)) H := hP
    rcases (show (r_5 = 1 ∧ (0 ≤ p1 ∧ p1 ≤ 11)) ∨ (r_5 = 0 ∧ ¬ ((0 ≤ p1 ∧ p1 ≤ 11))) from hw) with ⟨rfl, hq_5⟩ | ⟨rfl, hq_5⟩
    · skip
      refine lv_if_ne (tgt := 37) hx hb dX10_node_30 (by decide) (fun c_6 => ?_) (fun c_6 => absurd c_6 (by decide))
      refine lv_iconst (v := 0) hx hb dX10_node_37 (by decide) ?_
      refine fz_cVi (As := [.int 2, .int 0]) (rest := []) S0 (m_fails0 l A D k q f pa (va_up v 0 0) 2) (fz_cwV (C := RX10) 2 hts fm_553 fm_554 fm_555 fm_556 fm_469 rfl rfl ⟨by decide, by decide, by decide +kernel⟩ ⟨Nat.le_of_ble_eq_true rfl, Nat.le_of_ble_eq_true rfl⟩) (va_recv hK hP (ci := 14) (q0 := 0) rfl rfl) (fun _ h9 => h9) (fun a9 h9 => hA a9 (Nat.le_trans hS.1 h9)) hG hS hP hK hD rfl hl.1 rfl (Nat.le_of_ble_eq_true rfl) dX10_node_38 ⟨Nat.le_of_ble_eq_true rfl, Nat.le_of_ble_eq_true rfl⟩ (fun r_7 u_7 H locs hw hz1 hk1 hP hS => ?_)
      have hP : va_P D vwCl (fz_WM k q f pa (va_up v 0 0)) H := hP
      have hD : va_D A (fz_WM k q f pa (va_up v 0 0)) := fz_Dsame hD rfl
      obtain rfl : r_7 = 0 := hw
      refine lv_if_eq (tgt := 46) hx hb dX10_node_41 (by decide) (fun c_8 => ?_) (fun c_8 => absurd (by decide) c_8)
      refine lv_iload_n hx hb dX10_node_46 rfl (lv_at hl 2 rfl) ?_
      by_cases c_9_0 : p1 = 0
      · subst c_9_0
        refine lv_tableIn (off := 57) (tgt := 104) hx hb dX10_node_47 (by decide) (by decide) rfl (by decide) ?_
        refine lv_aload_n hx hb dX10_node_104 rfl (lv_at hl 0 rfl) ?_
        refine lv_iload_n hx hb dX10_node_105 rfl (lv_at hl 1 rfl) ?_
        refine lv_iconst (v := 1) hx hb dX10_node_106 (by decide) ?_
        refine fz_cVi (As := [.int 0, .int 1]) (rest := []) S0 (m_of1 l A D k q f pa (va_up v 0 0) g_f_1_8) (fz_cwV (C := RX10) 2 hts fm_477 fm_478 fm_479 fm_480 fm_469 rfl rfl ⟨by decide, by decide, by decide +kernel⟩ ⟨Nat.le_of_ble_eq_true rfl, Nat.le_of_ble_eq_true rfl⟩) (va_recv hK hP (ci := 14) (q0 := 0) rfl rfl) (fun _ h9 => h9) (fun a9 h9 => hA a9 (Nat.le_trans hS.1 h9)) hG hS hP hK hD rfl hl.1 rfl (Nat.le_of_ble_eq_true rfl) dX10_node_107 ⟨Nat.le_of_ble_eq_true rfl, Nat.le_of_ble_eq_true rfl⟩ (fun r_10 u_10 H locs hw hz1 hk1 hP hS => ?_)
        have hP : va_P D vwCl (fz_WM k q f pa (va_up v 0 0)) H := hP
        obtain rfl : r_10 = 0 := hw
        have hP : va_P D vwCl (fz_MO q (va_up v 0 0)) H := hP.sub [0] rfl
        exact fz_iret hx hb hr rfl hlocks hS dX10_node_110 (va_up v 0 0) (Or.inr (Or.inr (Or.inl ⟨rfl, rfl, (fq_40 )⟩))) hP (Nat.le_of_ble_eq_true rfl) (Nat.le_of_ble_eq_true rfl)
      by_cases c_9_1 : p1 = 1
      · subst c_9_1
        refine lv_tableIn (off := 64) (tgt := 111) hx hb dX10_node_47 (by decide) (by decide) rfl (by decide) ?_
        refine lv_aload_n hx hb dX10_node_111 rfl (lv_at hl 0 rfl) ?_
        refine lv_iload_n hx hb dX10_node_112 rfl (lv_at hl 1 rfl) ?_
        refine lv_iconst (v := 2) hx hb dX10_node_113 (by decide) ?_
        refine fz_cVi (As := [.int 0, .int 2]) (rest := []) S0 (m_of2 l A D k q f pa (va_up v 0 0) g_f_1_9) (fz_cwV (C := RX10) 2 hts fm_477 fm_478 fm_479 fm_480 fm_469 rfl rfl ⟨by decide, by decide, by decide +kernel⟩ ⟨Nat.le_of_ble_eq_true rfl, Nat.le_of_ble_eq_true rfl⟩) (va_recv hK hP (ci := 14) (q0 := 0) rfl rfl) (fun _ h9 => h9) (fun a9 h9 => hA a9 (Nat.le_trans hS.1 h9)) hG hS hP hK hD rfl hl.1 rfl (Nat.le_of_ble_eq_true rfl) dX10_node_114 ⟨Nat.le_of_ble_eq_true rfl, Nat.le_of_ble_eq_true rfl⟩ (fun r_11 u_11 H locs hw hz1 hk1 hP hS => ?_)
        have hP : va_P D vwCl (fz_WM k q f pa (va_up v 0 0)) H := hP
        obtain rfl : r_11 = (-1) := hw
        have hP : va_P D vwCl (fz_MO q (va_up v 0 0)) H := hP.sub [0] rfl
        exact fz_iret hx hb hr rfl hlocks hS dX10_node_117 (va_up v 0 0) (Or.inr (Or.inr (Or.inr (Or.inl ⟨rfl, rfl, (fq_42 )⟩)))) hP (Nat.le_of_ble_eq_true rfl) (Nat.le_of_ble_eq_true rfl)
      by_cases c_9_2 : p1 = 2
      · subst c_9_2
        refine lv_tableIn (off := 71) (tgt := 118) hx hb dX10_node_47 (by decide) (by decide) rfl (by decide) ?_
        refine lv_aload_n hx hb dX10_node_118 rfl (lv_at hl 0 rfl) ?_
        refine lv_iload_n hx hb dX10_node_119 rfl (lv_at hl 1 rfl) ?_
        refine lv_iconst (v := 3) hx hb dX10_node_120 (by decide) ?_
        refine fz_cVi (As := [.int 0, .int 3]) (rest := []) S0 (m_of3 l A D k q f pa (va_up v 0 0) g_f_1_10) (fz_cwV (C := RX10) 2 hts fm_477 fm_478 fm_479 fm_480 fm_469 rfl rfl ⟨by decide, by decide, by decide +kernel⟩ ⟨Nat.le_of_ble_eq_true rfl, Nat.le_of_ble_eq_true rfl⟩) (va_recv hK hP (ci := 14) (q0 := 0) rfl rfl) (fun _ h9 => h9) (fun a9 h9 => hA a9 (Nat.le_trans hS.1 h9)) hG hS hP hK hD rfl hl.1 rfl (Nat.le_of_ble_eq_true rfl) dX10_node_121 ⟨Nat.le_of_ble_eq_true rfl, Nat.le_of_ble_eq_true rfl⟩ (fun r_12 u_12 H locs hw hz1 hk1 hP hS => ?_)
        have hP : va_P D vwCl (fz_WM k q f pa (va_up v 0 0)) H := hP
        obtain rfl : r_12 = 0 := hw
        have hP : va_P D vwCl (fz_MO q (va_up v 0 0)) H := hP.sub [0] rfl
        exact fz_iret hx hb hr rfl hlocks hS dX10_node_124 (va_up v 0 0) (Or.inr (Or.inr (Or.inr (Or.inr (Or.inl ⟨rfl, rfl, (fq_43 )⟩))))) hP (Nat.le_of_ble_eq_true rfl) (Nat.le_of_ble_eq_true rfl)
      by_cases c_9_3 : p1 = 3
      · subst c_9_3
        refine lv_tableIn (off := 78) (tgt := 125) hx hb dX10_node_47 (by decide) (by decide) rfl (by decide) ?_
        refine lv_aload_n hx hb dX10_node_125 rfl (lv_at hl 0 rfl) ?_
        refine lv_iload_n hx hb dX10_node_126 rfl (lv_at hl 1 rfl) ?_
        refine lv_iconst (v := 4) hx hb dX10_node_127 (by decide) ?_
        refine fz_cVi (As := [.int 0, .int 4]) (rest := []) S0 (m_of4 l A D k q f pa (va_up v 0 0) g_f_1_11) (fz_cwV (C := RX10) 2 hts fm_477 fm_478 fm_479 fm_480 fm_469 rfl rfl ⟨by decide, by decide, by decide +kernel⟩ ⟨Nat.le_of_ble_eq_true rfl, Nat.le_of_ble_eq_true rfl⟩) (va_recv hK hP (ci := 14) (q0 := 0) rfl rfl) (fun _ h9 => h9) (fun a9 h9 => hA a9 (Nat.le_trans hS.1 h9)) hG hS hP hK hD rfl hl.1 rfl (Nat.le_of_ble_eq_true rfl) dX10_node_128 ⟨Nat.le_of_ble_eq_true rfl, Nat.le_of_ble_eq_true rfl⟩ (fun r_13 u_13 H locs hw hz1 hk1 hP hS => ?_)
        have hP : va_P D vwCl (fz_WM k q f pa (va_up v 0 0)) H := hP
        obtain rfl : r_13 = (-1) := hw
        have hP : va_P D vwCl (fz_MO q (va_up v 0 0)) H := hP.sub [0] rfl
        exact fz_iret hx hb hr rfl hlocks hS dX10_node_131 (va_up v 0 0) (Or.inr (Or.inr (Or.inr (Or.inr (Or.inr (Or.inl ⟨rfl, rfl, (fq_44 )⟩)))))) hP (Nat.le_of_ble_eq_true rfl) (Nat.le_of_ble_eq_true rfl)
      by_cases c_9_4 : p1 = 4
      · subst c_9_4
        refine lv_tableIn (off := 85) (tgt := 132) hx hb dX10_node_47 (by decide) (by decide) rfl (by decide) ?_
        refine lv_aload_n hx hb dX10_node_132 rfl (lv_at hl 0 rfl) ?_
        refine lv_iload_n hx hb dX10_node_133 rfl (lv_at hl 1 rfl) ?_
        refine lv_iconst (v := 5) hx hb dX10_node_134 (by decide) ?_
        refine fz_cVi (As := [.int 0, .int 5]) (rest := []) S0 (m_of5 l A D k q f pa (va_up v 0 0) g_f_1_12) (fz_cwV (C := RX10) 2 hts fm_477 fm_478 fm_479 fm_480 fm_469 rfl rfl ⟨by decide, by decide, by decide +kernel⟩ ⟨Nat.le_of_ble_eq_true rfl, Nat.le_of_ble_eq_true rfl⟩) (va_recv hK hP (ci := 14) (q0 := 0) rfl rfl) (fun _ h9 => h9) (fun a9 h9 => hA a9 (Nat.le_trans hS.1 h9)) hG hS hP hK hD rfl hl.1 rfl (Nat.le_of_ble_eq_true rfl) dX10_node_135 ⟨Nat.le_of_ble_eq_true rfl, Nat.le_of_ble_eq_true rfl⟩ (fun r_14 u_14 H locs hw hz1 hk1 hP hS => ?_)
        have hP : va_P D vwCl (fz_WM k q f pa (va_up v 0 0)) H := hP
        obtain rfl : r_14 = (-1) := hw
        have hP : va_P D vwCl (fz_MO q (va_up v 0 0)) H := hP.sub [0] rfl
        exact fz_iret hx hb hr rfl hlocks hS dX10_node_138 (va_up v 0 0) (Or.inr (Or.inr (Or.inr (Or.inr (Or.inr (Or.inl ⟨rfl, rfl, (fq_45 )⟩)))))) hP (Nat.le_of_ble_eq_true rfl) (Nat.le_of_ble_eq_true rfl)
      by_cases c_9_5 : p1 = 5
      · subst c_9_5
        refine lv_tableIn (off := 92) (tgt := 139) hx hb dX10_node_47 (by decide) (by decide) rfl (by decide) ?_
        refine lv_aload_n hx hb dX10_node_139 rfl (lv_at hl 0 rfl) ?_
        refine lv_iload_n hx hb dX10_node_140 rfl (lv_at hl 1 rfl) ?_
        refine fz_cVi (As := [.int 0]) (rest := []) S0 (m_latest l A D k q f pa (va_up v 0 0) g_f_1_0 g_f_1_7 g_f_1_12) (fz_cwV (C := RX10) 1 hts fm_509 fm_510 fm_511 fm_512 fm_469 rfl rfl ⟨by decide, by decide, by decide +kernel⟩ ⟨Nat.le_of_ble_eq_true rfl, Nat.le_of_ble_eq_true rfl⟩) (va_recv hK hP (ci := 14) (q0 := 0) rfl rfl) (fun _ h9 => h9) (fun a9 h9 => hA a9 (Nat.le_trans hS.1 h9)) hG hS hP hK hD rfl hl.1 rfl (Nat.le_of_ble_eq_true rfl) dX10_node_141 ⟨Nat.le_of_ble_eq_true rfl, Nat.le_of_ble_eq_true rfl⟩ (fun r_15 u_15 H locs hw hz1 hk1 hP hS => ?_)
        have hP : va_P D vwCl (fz_WM k q f pa (va_up v 0 0)) H := hP
        obtain rfl : r_15 = (-1) := hw
        have hP : va_P D vwCl (fz_MO q (va_up v 0 0)) H := hP.sub [0] rfl
        exact fz_iret hx hb hr rfl hlocks hS dX10_node_144 (va_up v 0 0) (Or.inr (Or.inr (Or.inr (Or.inr (Or.inr (Or.inl ⟨rfl, rfl, (fq_46 )⟩)))))) hP (Nat.le_of_ble_eq_true rfl) (Nat.le_of_ble_eq_true rfl)
      by_cases c_9_6 : p1 = 6
      · subst c_9_6
        refine lv_tableIn (off := 98) (tgt := 145) hx hb dX10_node_47 (by decide) (by decide) rfl (by decide) ?_
        refine lv_aload_n hx hb dX10_node_145 rfl (lv_at hl 0 rfl) ?_
        refine lv_iload_n hx hb dX10_node_146 rfl (lv_at hl 1 rfl) ?_
        refine fz_cVi (As := [.int 0]) (rest := []) S0 (m_countChildren l A D k q f pa (va_up v 0 0) g_f_1_0) (fz_cwV (C := RX10) 1 hts fm_569 fm_570 fm_571 fm_572 fm_469 rfl rfl ⟨by decide, by decide, by decide +kernel⟩ ⟨Nat.le_of_ble_eq_true rfl, Nat.le_of_ble_eq_true rfl⟩) (va_recv hK hP (ci := 14) (q0 := 0) rfl rfl) (fun _ h9 => h9) (fun a9 h9 => hA a9 (Nat.le_trans hS.1 h9)) hG hS hP hK hD rfl hl.1 rfl (Nat.le_of_ble_eq_true rfl) dX10_node_147 ⟨Nat.le_of_ble_eq_true rfl, Nat.le_of_ble_eq_true rfl⟩ (fun r_16 u_16 H locs hw hz1 hk1 hP hS => ?_)
        have hP : va_P D vwCl (fz_WM k q f pa (va_up v 0 0)) H := hP
        obtain rfl : r_16 = 0 := hw
        have hP : va_P D vwCl (fz_MO q (va_up v 0 0)) H := hP.sub [0] rfl
        exact fz_iret hx hb hr rfl hlocks hS dX10_node_150 (va_up v 0 0) (Or.inr (Or.inr (Or.inr (Or.inr (Or.inr (Or.inr (Or.inl ⟨rfl, rfl, (fq_47 )⟩))))))) hP (Nat.le_of_ble_eq_true rfl) (Nat.le_of_ble_eq_true rfl)
      by_cases c_9_7 : p1 = 7
      · subst c_9_7
        refine lv_tableIn (off := 104) (tgt := 151) hx hb dX10_node_47 (by decide) (by decide) rfl (by decide) ?_
        refine lv_aload_n hx hb dX10_node_151 rfl (lv_at hl 0 rfl) ?_
        refine lv_iload_n hx hb dX10_node_152 rfl (lv_at hl 1 rfl) ?_
        refine fz_cVi (As := [.int 0]) (rest := []) S0 (m_countBelow l A D k q f pa (va_up v 0 0) g_f_1_0 g_f_1_7) (fz_cwV (C := RX10) 1 hts fm_573 fm_574 fm_575 fm_576 fm_469 rfl rfl ⟨by decide, by decide, by decide +kernel⟩ ⟨Nat.le_of_ble_eq_true rfl, Nat.le_of_ble_eq_true rfl⟩) (va_recv hK hP (ci := 14) (q0 := 0) rfl rfl) (fun _ h9 => h9) (fun a9 h9 => hA a9 (Nat.le_trans hS.1 h9)) hG hS hP hK hD rfl hl.1 rfl (Nat.le_of_ble_eq_true rfl) dX10_node_153 ⟨Nat.le_of_ble_eq_true rfl, Nat.le_of_ble_eq_true rfl⟩ (fun r_17 u_17 H locs hw hz1 hk1 hP hS => ?_)
        have hP : va_P D vwCl (fz_WM k q f pa (va_up v 0 0)) H := hP
        obtain rfl : r_17 = 0 := hw
        have hP : va_P D vwCl (fz_MO q (va_up v 0 0)) H := hP.sub [0] rfl
        exact fz_iret hx hb hr rfl hlocks hS dX10_node_156 (va_up v 0 0) (Or.inr (Or.inr (Or.inr (Or.inr (Or.inr (Or.inr (Or.inl ⟨rfl, rfl, (fq_48 )⟩))))))) hP (Nat.le_of_ble_eq_true rfl) (Nat.le_of_ble_eq_true rfl)
      by_cases c_9_8 : p1 = 8
      · subst c_9_8
        refine lv_tableIn (off := 110) (tgt := 157) hx hb dX10_node_47 (by decide) (by decide) rfl (by decide) ?_
        refine lv_aload_n hx hb dX10_node_157 rfl (lv_at hl 0 rfl) ?_
        refine lv_iload_n hx hb dX10_node_158 rfl (lv_at hl 1 rfl) ?_
        refine fz_cVi (As := [.int 0]) (rest := []) S0 (m_sumPages l A D k q f pa (va_up v 0 0) g_f_1_0 g_f_1_7 g_f_1_10) (fz_cwV (C := RX10) 1 hts fm_577 fm_578 fm_579 fm_580 fm_469 rfl rfl ⟨by decide, by decide, by decide +kernel⟩ ⟨Nat.le_of_ble_eq_true rfl, Nat.le_of_ble_eq_true rfl⟩) (va_recv hK hP (ci := 14) (q0 := 0) rfl rfl) (fun _ h9 => h9) (fun a9 h9 => hA a9 (Nat.le_trans hS.1 h9)) hG hS hP hK hD rfl hl.1 rfl (Nat.le_of_ble_eq_true rfl) dX10_node_159 ⟨Nat.le_of_ble_eq_true rfl, Nat.le_of_ble_eq_true rfl⟩ (fun r_18 u_18 H locs hw hz1 hk1 hP hS => ?_)
        have hP : va_P D vwCl (fz_WM k q f pa (va_up v 0 0)) H := hP
        obtain rfl : r_18 = 0 := hw
        have hP : va_P D vwCl (fz_MO q (va_up v 0 0)) H := hP.sub [0] rfl
        exact fz_iret hx hb hr rfl hlocks hS dX10_node_162 (va_up v 0 0) (Or.inr (Or.inr (Or.inr (Or.inr (Or.inr (Or.inr (Or.inl ⟨rfl, rfl, (fq_49 )⟩))))))) hP (Nat.le_of_ble_eq_true rfl) (Nat.le_of_ble_eq_true rfl)
      by_cases c_9_9 : p1 = 9
      · subst c_9_9
        refine lv_tableIn (off := 116) (tgt := 163) hx hb dX10_node_47 (by decide) (by decide) rfl (by decide) ?_
        refine lv_aload_n hx hb dX10_node_163 rfl (lv_at hl 0 rfl) ?_
        refine lv_iload_n hx hb dX10_node_164 rfl (lv_at hl 1 rfl) ?_
        refine lv_bipush (v := 8) hx hb dX10_node_165 (by decide) ?_
        refine fz_cVi (As := [.int 0, .int 8]) (rest := []) S0 (m_of8 l A D k q f pa (va_up v 0 0) g_f_1_15) (fz_cwV (C := RX10) 2 hts fm_477 fm_478 fm_479 fm_480 fm_469 rfl rfl ⟨by decide, by decide, by decide +kernel⟩ ⟨Nat.le_of_ble_eq_true rfl, Nat.le_of_ble_eq_true rfl⟩) (va_recv hK hP (ci := 14) (q0 := 0) rfl rfl) (fun _ h9 => h9) (fun a9 h9 => hA a9 (Nat.le_trans hS.1 h9)) hG hS hP hK hD rfl hl.1 rfl (Nat.le_of_ble_eq_true rfl) dX10_node_167 ⟨Nat.le_of_ble_eq_true rfl, Nat.le_of_ble_eq_true rfl⟩ (fun r_19 u_19 H locs hw hz1 hk1 hP hS => ?_)
        have hP : va_P D vwCl (fz_WM k q f pa (va_up v 0 0)) H := hP
        obtain rfl : r_19 = (-1) := hw
        have hP : va_P D vwCl (fz_MO q (va_up v 0 0)) H := hP.sub [0] rfl
        exact fz_iret hx hb hr rfl hlocks hS dX10_node_170 (va_up v 0 0) (Or.inr (Or.inr (Or.inr (Or.inr (Or.inr (Or.inr (Or.inr (Or.inl ⟨rfl, rfl, (fq_50 )⟩)))))))) hP (Nat.le_of_ble_eq_true rfl) (Nat.le_of_ble_eq_true rfl)
      by_cases c_9_10 : p1 = 10
      · subst c_9_10
        refine lv_tableIn (off := 124) (tgt := 171) hx hb dX10_node_47 (by decide) (by decide) rfl (by decide) ?_
        refine lv_aload_n hx hb dX10_node_171 rfl (lv_at hl 0 rfl) ?_
        refine lv_iload_n hx hb dX10_node_172 rfl (lv_at hl 1 rfl) ?_
        refine lv_bipush (v := 9) hx hb dX10_node_173 (by decide) ?_
        refine fz_cVi (As := [.int 0, .int 9]) (rest := []) S0 (m_of9 l A D k q f pa (va_up v 0 0) g_f_1_16) (fz_cwV (C := RX10) 2 hts fm_477 fm_478 fm_479 fm_480 fm_469 rfl rfl ⟨by decide, by decide, by decide +kernel⟩ ⟨Nat.le_of_ble_eq_true rfl, Nat.le_of_ble_eq_true rfl⟩) (va_recv hK hP (ci := 14) (q0 := 0) rfl rfl) (fun _ h9 => h9) (fun a9 h9 => hA a9 (Nat.le_trans hS.1 h9)) hG hS hP hK hD rfl hl.1 rfl (Nat.le_of_ble_eq_true rfl) dX10_node_175 ⟨Nat.le_of_ble_eq_true rfl, Nat.le_of_ble_eq_true rfl⟩ (fun r_20 u_20 H locs hw hz1 hk1 hP hS => ?_)
        have hP : va_P D vwCl (fz_WM k q f pa (va_up v 0 0)) H := hP
        obtain rfl : r_20 = (-1) := hw
        have hP : va_P D vwCl (fz_MO q (va_up v 0 0)) H := hP.sub [0] rfl
        exact fz_iret hx hb hr rfl hlocks hS dX10_node_178 (va_up v 0 0) (Or.inr (Or.inr (Or.inr (Or.inr (Or.inr (Or.inr (Or.inr (Or.inl ⟨rfl, rfl, (fq_51 )⟩)))))))) hP (Nat.le_of_ble_eq_true rfl) (Nat.le_of_ble_eq_true rfl)
      obtain rfl : p1 = 11 := (fq_52 p1 hq_5 c_9_0 c_9_1 c_9_2 c_9_3 c_9_4 c_9_5 c_9_6 c_9_7 c_9_8 c_9_9 c_9_10)
      refine lv_tableOut (tgt := 179) hx hb dX10_node_47 (by decide) (by decide) ?_
      refine lv_aload_n hx hb dX10_node_179 rfl (lv_at hl 0 rfl) ?_
      refine lv_iload_n hx hb dX10_node_180 rfl (lv_at hl 1 rfl) ?_
      refine fz_cVi (As := [.int 0]) (rest := []) S0 (m_countCopies l A D k q f pa (va_up v 0 0) g_f_1_3) (fz_cwV (C := RX10) 1 hts fm_581 fm_582 fm_583 fm_584 fm_469 rfl rfl ⟨by decide, by decide, by decide +kernel⟩ ⟨Nat.le_of_ble_eq_true rfl, Nat.le_of_ble_eq_true rfl⟩) (va_recv hK hP (ci := 14) (q0 := 0) rfl rfl) (fun _ h9 => h9) (fun a9 h9 => hA a9 (Nat.le_trans hS.1 h9)) hG hS hP hK hD rfl hl.1 rfl (Nat.le_of_ble_eq_true rfl) dX10_node_181 ⟨Nat.le_of_ble_eq_true rfl, Nat.le_of_ble_eq_true rfl⟩ (fun r_21 u_21 H locs hw hz1 hk1 hP hS => ?_)
      have hP : va_P D vwCl (fz_WM k q f pa (va_up v 0 0)) H := hP
      obtain rfl : r_21 = 0 := hw
      have hP : va_P D vwCl (fz_MO q (va_up v 0 0)) H := hP.sub [0] rfl
      exact fz_iret hx hb hr rfl hlocks hS dX10_node_184 (va_up v 0 0) (Or.inr (Or.inr (Or.inr (Or.inr (Or.inr (Or.inr (Or.inr (Or.inr ⟨rfl, rfl, (fq_53 )⟩)))))))) hP (Nat.le_of_ble_eq_true rfl) (Nat.le_of_ble_eq_true rfl)
    · skip
      refine lv_if_ne (tgt := 37) hx hb dX10_node_30 (by decide) (fun c_22 => absurd (by decide) c_22) (fun c_22 => ?_)
      refine lv_iconst (v := 1) hx hb dX10_node_33 (by decide) ?_
      refine lv_goto (tgt := 38) hx hb dX10_node_34 (by decide) ?_
      refine fz_cVi (As := [.int 2, .int 1]) (rest := []) S0 (m_fails1 l A D k q f pa (va_up v 0 0) 2) (fz_cwV (C := RX10) 2 hts fm_553 fm_554 fm_555 fm_556 fm_469 rfl rfl ⟨by decide, by decide, by decide +kernel⟩ ⟨Nat.le_of_ble_eq_true rfl, Nat.le_of_ble_eq_true rfl⟩) (va_recv hK hP (ci := 14) (q0 := 0) rfl rfl) (fun _ h9 => h9) (fun a9 h9 => hA a9 (Nat.le_trans hS.1 h9)) hG hS hP hK hD rfl hl.1 rfl (Nat.le_of_ble_eq_true rfl) dX10_node_38 ⟨Nat.le_of_ble_eq_true rfl, Nat.le_of_ble_eq_true rfl⟩ (fun r_23 u_23 H locs hw hz1 hk1 hP hS => ?_)
      have hP : va_P D vwCl (fz_WM k q f pa (va_up v 0 2)) H := hP
      have hD : va_D A (fz_WM k q f pa (va_up v 0 2)) := fz_Dsame hD rfl
      obtain rfl : r_23 = 1 := hw
      refine lv_if_eq (tgt := 46) hx hb dX10_node_41 (by decide) (fun c_24 => absurd c_24 (by decide)) (fun c_24 => ?_)
      refine lv_iconst (v := 0) hx hb dX10_node_44 (by decide) ?_
      have hP : va_P D vwCl (fz_MO q (va_up v 0 2)) H := hP.sub [0] rfl
      exact fz_iret hx hb hr rfl hlocks hS dX10_node_45 (va_up v 0 2) (Or.inr (Or.inl ⟨rfl, rfl, (fq_114 p1 hq_5)⟩)) hP (Nat.le_of_ble_eq_true rfl) (Nat.le_of_ble_eq_true rfl)
  · skip
    refine lv_if_ne (tgt := 14) hx hb dX10_node_7 (by decide) (fun c_25 => absurd (by decide) c_25) (fun c_25 => ?_)
    refine lv_iconst (v := 1) hx hb dX10_node_10 (by decide) ?_
    refine lv_goto (tgt := 15) hx hb dX10_node_11 (by decide) ?_
    refine fz_cVi (As := [.int 1, .int 1]) (rest := []) S0 (m_fails1 l A D k q f pa v 1) (fz_cwV (C := RX10) 2 hts fm_553 fm_554 fm_555 fm_556 fm_469 rfl rfl ⟨by decide, by decide, by decide +kernel⟩ ⟨Nat.le_of_ble_eq_true rfl, Nat.le_of_ble_eq_true rfl⟩) (va_recv hK hP (ci := 14) (q0 := 0) rfl rfl) (fun _ h9 => h9) (fun a9 h9 => hA a9 (Nat.le_trans hS.1 h9)) hG hS hP hK hD rfl hl.1 rfl (Nat.le_of_ble_eq_true rfl) dX10_node_15 ⟨Nat.le_of_ble_eq_true rfl, Nat.le_of_ble_eq_true rfl⟩ (fun r_26 u_26 H locs hw hz1 hk1 hP hS => ?_)
    have hP : va_P D vwCl (fz_WM k q f pa (va_up v 0 1)) H := hP
    have hD : va_D A (fz_WM k q f pa (va_up v 0 1)) := fz_Dsame hD rfl
    obtain rfl : r_26 = 1 := hw
    refine lv_if_ne (tgt := 44) hx hb dX10_node_18 (by decide) (fun c_27 => ?_) (fun c_27 => absurd c_27 (by decide))
    refine lv_iconst (v := 0) hx hb dX10_node_44 (by decide) ?_
    have hP : va_P D vwCl (fz_MO q (va_up v 0 1)) H := hP.sub [0] rfl
    exact fz_iret hx hb hr rfl hlocks hS dX10_node_45 (va_up v 0 1) (Or.inl ⟨rfl, rfl, (fq_28 p0 hq_1)⟩) hP (Nat.le_of_ble_eq_true rfl) (Nat.le_of_ble_eq_true rfl)

set_option maxHeartbeats 4000000 in
set_option maxRecDepth 100000 in
theorem m_p_child (l : Launch) (A : Nat → Prop) (D : va_G) (k : Nat → ClassId) (q : Nat → Nat) (f : Nat → Nat → Int32) (pa : Nat → Option Nat) (v : Nat → Int32) (p0 p1 : Int32) (g_f_1_0 : f 1 0 = 1) (g_f_1_7 : f 1 7 = 1)  :
    Met l yX10_child (fz_ws yX10_child cX10_child 5 (some .int)) { frames := 24, cells := 0, slots := 0, locals := 320 } (va_Pc [.ref (q 0), .int p0, .int p1] (fz_PC A D (fz_tys k) (fz_WM k q f pa v))) (fz_QI D A (fun (u : Nat → Int32) => fz_MO q u) (fun (r : Int32) (u : Nat → Int32) => (r = 0 ∧ u 0 = 1 ∧ True))) 0 0 A := by
  refine fz_of (by decide +kernel) (Nat.le_of_ble_eq_true rfl) ?_
  intro p e s m below meth c hx hb hr hml hown hlocks hts hin hA hP hK hD hG hS ls hl
  have hown : s.vm.findClass RX10 = some m.cls := hown
  have S0 : CallFix p m c cX10_child 5 s [.ref (q 0), .int p0, .int p1].toArray (fz_ws yX10_child cX10_child 5 (some .int)) RX10 := ⟨hx, hb, hml, hown, hts⟩
  have hl : lv_has ls 5 [(0, .ref (q 0)), (1, .int p0), (2, .int p1)] := hl
  refine lv_aload_n hx hb dX10_child_0 rfl (lv_at hl 0 rfl) ?_
  refine lv_iconst (v := 1) hx hb dX10_child_1 (by decide) ?_
  refine lv_aload_n hx hb dX10_child_2 rfl (lv_at hl 0 rfl) ?_
  refine lv_iload_n hx hb dX10_child_3 rfl (lv_at hl 1 rfl) ?_
  refine fz_cVi (As := [.int p0]) (rest := [.int 1, .ref (q 0)]) S0 (m_isNode l A D k q f pa v p0 g_f_1_0 g_f_1_7) (fz_cwV (C := RX10) 1 hts fm_481 fm_482 fm_483 fm_484 fm_469 rfl rfl ⟨by decide, by decide, by decide +kernel⟩ ⟨Nat.le_of_ble_eq_true rfl, Nat.le_of_ble_eq_true rfl⟩) (va_recv hK hP (ci := 14) (q0 := 0) rfl rfl) (fun _ h9 => h9) (fun a9 h9 => hA a9 (Nat.le_trans hS.1 h9)) hG hS hP hK hD rfl hl.1 rfl (Nat.le_of_ble_eq_true rfl) dX10_child_4 ⟨Nat.le_of_ble_eq_true rfl, Nat.le_of_ble_eq_true rfl⟩ (fun r_1 u_1 H locs hw hz1 hk1 hP hS => ?_)
  have hP : va_P D vwCl (fz_WM k q f pa v) H := hP
  rcases (show (r_1 = 1 ∧ p0 = 0) ∨ (r_1 = 0 ∧ ¬ (p0 = 0)) from hw) with ⟨rfl, hq_1⟩ | ⟨rfl, hq_1⟩
  · skip
    obtain rfl : p0 = 0 := (fq_27 p0 hq_1)
    refine lv_if_eq (tgt := 25) hx hb dX10_child_7 (by decide) (fun c_2 => absurd c_2 (by decide)) (fun c_2 => ?_)
    refine lv_iload_n hx hb dX10_child_10 rfl (lv_at hl 2 rfl) ?_
    refine lv_iconst (v := 0) hx hb dX10_child_11 (by decide) ?_
    refine lv_aload_n hx hb dX10_child_12 rfl (lv_at hl 0 rfl) ?_
    refine lv_iload_n hx hb dX10_child_13 rfl (lv_at hl 1 rfl) ?_
    refine fz_cVi (As := [.int 0]) (rest := [.int 0, .int p1, .int 1, .ref (q 0)]) S0 (m_countChildren l A D k q f pa v g_f_1_0) (fz_cwV (C := RX10) 1 hts fm_569 fm_570 fm_571 fm_572 fm_469 rfl rfl ⟨by decide, by decide, by decide +kernel⟩ ⟨Nat.le_of_ble_eq_true rfl, Nat.le_of_ble_eq_true rfl⟩) (va_recv hK hP (ci := 14) (q0 := 0) rfl rfl) (fun _ h9 => h9) (fun a9 h9 => hA a9 (Nat.le_trans hS.1 h9)) hG hS hP hK hD rfl hl.1 rfl (Nat.le_of_ble_eq_true rfl) dX10_child_14 ⟨Nat.le_of_ble_eq_true rfl, Nat.le_of_ble_eq_true rfl⟩ (fun r_3 u_3 H locs hw hz1 hk1 hP hS => ?_)
    have hP : va_P D vwCl (fz_WM k q f pa v) H := hP
    obtain rfl : r_3 = 0 := hw
    refine lv_iconst (v := 1) hx hb dX10_child_17 (by decide) ?_
    refine lv_isub hx hb dX10_child_18 ?_
    refine fz_I (y := (-1)) (by decide) ?_
    refine fz_cSi (As := [.int p1, .int 0, .int (-1)]) (rest := [.int 1, .ref (q 0)]) S0 (m_isBetween l A D k q f pa v p1 0 (-1)) (fz_cwS 3 hts fm_474 fm_475 fm_476 fm_469 rfl rfl ⟨by decide, by decide, by decide +kernel⟩ ⟨Nat.le_of_ble_eq_true rfl, Nat.le_of_ble_eq_true rfl⟩) (fun _ h9 => h9) (fun a9 h9 => hA a9 (Nat.le_trans hS.1 h9)) hG hS hP hK hD rfl hl.1 rfl (Nat.le_of_ble_eq_true rfl) dX10_child_19 ⟨Nat.le_of_ble_eq_true rfl, Nat.le_of_ble_eq_true rfl⟩ (fun r_4 u_4 H locs hw hz1 hk1 hP hS => ?_)
    have hP : va_P D vwCl (fz_WM k q f pa v) H := hP
    rcases (show (r_4 = 1 ∧ (0 ≤ p1 ∧ p1 ≤ (-1))) ∨ (r_4 = 0 ∧ ¬ ((0 ≤ p1 ∧ p1 ≤ (-1)))) from hw) with ⟨rfl, hq_4⟩ | ⟨rfl, hq_4⟩
    · skip
      exact (fq_113 p1 hq_4).elim
    · skip
      refine lv_if_ne (tgt := 29) hx hb dX10_child_22 (by decide) (fun c_5 => absurd (by decide) c_5) (fun c_5 => ?_)
      refine lv_iconst (v := 1) hx hb dX10_child_25 (by decide) ?_
      refine lv_goto (tgt := 30) hx hb dX10_child_26 (by decide) ?_
      refine fz_cVi (As := [.int 1, .int 1]) (rest := []) S0 (m_fails1 l A D k q f pa v 1) (fz_cwV (C := RX10) 2 hts fm_553 fm_554 fm_555 fm_556 fm_469 rfl rfl ⟨by decide, by decide, by decide +kernel⟩ ⟨Nat.le_of_ble_eq_true rfl, Nat.le_of_ble_eq_true rfl⟩) (va_recv hK hP (ci := 14) (q0 := 0) rfl rfl) (fun _ h9 => h9) (fun a9 h9 => hA a9 (Nat.le_trans hS.1 h9)) hG hS hP hK hD rfl hl.1 rfl (Nat.le_of_ble_eq_true rfl) dX10_child_30 ⟨Nat.le_of_ble_eq_true rfl, Nat.le_of_ble_eq_true rfl⟩ (fun r_6 u_6 H locs hw hz1 hk1 hP hS => ?_)
      have hP : va_P D vwCl (fz_WM k q f pa (va_up v 0 1)) H := hP
      have hD : va_D A (fz_WM k q f pa (va_up v 0 1)) := fz_Dsame hD rfl
      obtain rfl : r_6 = 1 := hw
      refine lv_if_eq (tgt := 38) hx hb dX10_child_33 (by decide) (fun c_7 => absurd c_7 (by decide)) (fun c_7 => ?_)
      refine lv_iconst (v := 0) hx hb dX10_child_36 (by decide) ?_
      have hP : va_P D vwCl (fz_MO q (va_up v 0 1)) H := hP.sub [0] rfl
      exact fz_iret hx hb hr rfl hlocks hS dX10_child_37 (va_up v 0 1) ⟨rfl, rfl, trivial⟩ hP (Nat.le_of_ble_eq_true rfl) (Nat.le_of_ble_eq_true rfl)
  · skip
    refine lv_if_eq (tgt := 25) hx hb dX10_child_7 (by decide) (fun c_8 => ?_) (fun c_8 => absurd (by decide) c_8)
    refine lv_iconst (v := 1) hx hb dX10_child_25 (by decide) ?_
    refine lv_goto (tgt := 30) hx hb dX10_child_26 (by decide) ?_
    refine fz_cVi (As := [.int 1, .int 1]) (rest := []) S0 (m_fails1 l A D k q f pa v 1) (fz_cwV (C := RX10) 2 hts fm_553 fm_554 fm_555 fm_556 fm_469 rfl rfl ⟨by decide, by decide, by decide +kernel⟩ ⟨Nat.le_of_ble_eq_true rfl, Nat.le_of_ble_eq_true rfl⟩) (va_recv hK hP (ci := 14) (q0 := 0) rfl rfl) (fun _ h9 => h9) (fun a9 h9 => hA a9 (Nat.le_trans hS.1 h9)) hG hS hP hK hD rfl hl.1 rfl (Nat.le_of_ble_eq_true rfl) dX10_child_30 ⟨Nat.le_of_ble_eq_true rfl, Nat.le_of_ble_eq_true rfl⟩ (fun r_9 u_9 H locs hw hz1 hk1 hP hS => ?_)
    have hP : va_P D vwCl (fz_WM k q f pa (va_up v 0 1)) H := hP
    have hD : va_D A (fz_WM k q f pa (va_up v 0 1)) := fz_Dsame hD rfl
    obtain rfl : r_9 = 1 := hw
    refine lv_if_eq (tgt := 38) hx hb dX10_child_33 (by decide) (fun c_10 => absurd c_10 (by decide)) (fun c_10 => ?_)
    refine lv_iconst (v := 0) hx hb dX10_child_36 (by decide) ?_
    have hP : va_P D vwCl (fz_MO q (va_up v 0 1)) H := hP.sub [0] rfl
    exact fz_iret hx hb hr rfl hlocks hS dX10_child_37 (va_up v 0 1) ⟨rfl, rfl, trivial⟩ hP (Nat.le_of_ble_eq_true rfl) (Nat.le_of_ble_eq_true rfl)

set_option maxHeartbeats 4000000 in
set_option maxRecDepth 100000 in
theorem m_p_setRule (l : Launch) (A : Nat → Prop) (D : va_G) (k : Nat → ClassId) (q : Nat → Nat) (f : Nat → Nat → Int32) (pa : Nat → Option Nat) (v : Nat → Int32) (p0 p1 p2 : Int32) (g_f_1_0 : f 1 0 = 1) (g_f_1_7 : f 1 7 = 1) (g_v_5 : v 5 = 0) (g_pb_0 : pa 0 = some (q 7)) (g_f_1_13 : f 1 13 = (-1))  :
    Met l yX10_setRule (fz_ws yX10_setRule cX10_setRule 6 (some .int)) { frames := 48, cells := 0, slots := 0, locals := 640 } (va_Pc [.ref (q 0), .int p0, .int p1, .int p2] (fz_PC A D (fz_tys k) (fz_WM k q f pa v))) (fz_QI D A (fun (u : Nat → Int32) => fz_MO q u) (fun (r : Int32) (u : Nat → Int32) => (r = 0 ∧ u 0 = 1 ∧ ¬ (p0 = 0)) ∨ (r = 0 ∧ u 0 = 2 ∧ (p0 = 0 ∧ ¬ ((p1 = (-1) ∨ p1 = 2 ∨ ((0 ≤ p1 ∧ p1 ≤ 1) ∧ (1 ≤ p2 ∧ p2 ≤ 5000)))))) ∨ (r = (-1) ∧ u 0 = 0 ∧ (p0 = 0 ∧ (p1 = (-1) ∨ p1 = 2 ∨ ((0 ≤ p1 ∧ p1 ≤ 1) ∧ (1 ≤ p2 ∧ p2 ≤ 5000))))))) 0 0 A := by
  refine fz_of (by decide +kernel) (Nat.le_of_ble_eq_true rfl) ?_
  intro p e s m below meth c hx hb hr hml hown hlocks hts hin hA hP hK hD hG hS ls hl
  have hown : s.vm.findClass RX10 = some m.cls := hown
  have S0 : CallFix p m c cX10_setRule 6 s [.ref (q 0), .int p0, .int p1, .int p2].toArray (fz_ws yX10_setRule cX10_setRule 6 (some .int)) RX10 := ⟨hx, hb, hml, hown, hts⟩
  have hl : lv_has ls 6 [(0, .ref (q 0)), (1, .int p0), (2, .int p1), (3, .int p2)] := hl
  refine lv_iload_n hx hb dX10_setRule_0 rfl (lv_at hl 2 rfl) ?_
  refine lv_iconst (v := (-1)) hx hb dX10_setRule_1 (by decide) ?_
  refine lv_icmp_eq (tgt := 30) hx hb dX10_setRule_2 (by decide) (fun c_1 => ?_) (fun c_1 => ?_)
  · skip
    obtain rfl : p1 = (-1) := (fq_11 p1 c_1)
    refine lv_iconst (v := 1) hx hb dX10_setRule_30 (by decide) ?_
    refine lv_goto (tgt := 35) hx hb dX10_setRule_31 (by decide) ?_
    refine lv_istore (lv' := [(4, .int 1), (0, .ref (q 0)), (1, .int p0), (2, .int (-1)), (3, .int p2)]) hx hb dX10_setRule_35 hl (by decide) rfl (fun ls hl => ?_)
    refine lv_aload_n hx hb dX10_setRule_37 rfl (lv_at hl 1 rfl) ?_
    refine lv_iconst (v := 1) hx hb dX10_setRule_38 (by decide) ?_
    refine lv_aload_n hx hb dX10_setRule_39 rfl (lv_at hl 1 rfl) ?_
    refine lv_iload_n hx hb dX10_setRule_40 rfl (lv_at hl 2 rfl) ?_
    refine fz_cVi (As := [.int p0]) (rest := [.int 1, .ref (q 0)]) S0 (m_isNode l A D k q f pa v p0 g_f_1_0 g_f_1_7) (fz_cwV (C := RX10) 1 hts fm_481 fm_482 fm_483 fm_484 fm_469 rfl rfl ⟨by decide, by decide, by decide +kernel⟩ ⟨Nat.le_of_ble_eq_true rfl, Nat.le_of_ble_eq_true rfl⟩) (va_recv hK hP (ci := 14) (q0 := 0) rfl rfl) (fun _ h9 => h9) (fun a9 h9 => hA a9 (Nat.le_trans hS.1 h9)) hG hS hP hK hD rfl hl.1 rfl (Nat.le_of_ble_eq_true rfl) dX10_setRule_41 ⟨Nat.le_of_ble_eq_true rfl, Nat.le_of_ble_eq_true rfl⟩ (fun r_2 u_2 H locs hw hz1 hk1 hP hS => ?_)
    have hP : va_P D vwCl (fz_WM k q f pa v) H := hP
    rcases (show (r_2 = 1 ∧ p0 = 0) ∨ (r_2 = 0 ∧ ¬ (p0 = 0)) from hw) with ⟨rfl, hq_2⟩ | ⟨rfl, hq_2⟩
    · skip
      obtain rfl : p0 = 0 := (fq_27 p0 hq_2)
      refine lv_if_ne (tgt := 51) hx hb dX10_setRule_44 (by decide) (fun c_3 => ?_) (fun c_3 => absurd c_3 (by decide))
      refine lv_iconst (v := 0) hx hb dX10_setRule_51 (by decide) ?_
      refine fz_cVi (As := [.int 1, .int 0]) (rest := []) S0 (m_fails0 l A D k q f pa v 1) (fz_cwV (C := RX10) 2 hts fm_553 fm_554 fm_555 fm_556 fm_469 rfl rfl ⟨by decide, by decide, by decide +kernel⟩ ⟨Nat.le_of_ble_eq_true rfl, Nat.le_of_ble_eq_true rfl⟩) (va_recv hK hP (ci := 14) (q0 := 0) rfl rfl) (fun _ h9 => h9) (fun a9 h9 => hA a9 (Nat.le_trans hS.1 h9)) hG hS hP hK hD rfl hl.1 rfl (Nat.le_of_ble_eq_true rfl) dX10_setRule_52 ⟨Nat.le_of_ble_eq_true rfl, Nat.le_of_ble_eq_true rfl⟩ (fun r_4 u_4 H locs hw hz1 hk1 hP hS => ?_)
      have hP : va_P D vwCl (fz_WM k q f pa (va_up v 0 0)) H := hP
      have hD : va_D A (fz_WM k q f pa (va_up v 0 0)) := fz_Dsame hD rfl
      obtain rfl : r_4 = 0 := hw
      refine lv_if_ne (tgt := 76) hx hb dX10_setRule_55 (by decide) (fun c_5 => absurd (by decide) c_5) (fun c_5 => ?_)
      refine lv_aload_n hx hb dX10_setRule_58 rfl (lv_at hl 1 rfl) ?_
      refine lv_iconst (v := 2) hx hb dX10_setRule_59 (by decide) ?_
      refine lv_iload hx hb dX10_setRule_60 (lv_at hl 0 rfl) ?_
      refine lv_if_ne (tgt := 69) hx hb dX10_setRule_62 (by decide) (fun c_6 => ?_) (fun c_6 => absurd c_6 (by decide))
      refine lv_iconst (v := 0) hx hb dX10_setRule_69 (by decide) ?_
      refine fz_cVi (As := [.int 2, .int 0]) (rest := []) S0 (m_fails0 l A D k q f pa (va_up v 0 0) 2) (fz_cwV (C := RX10) 2 hts fm_553 fm_554 fm_555 fm_556 fm_469 rfl rfl ⟨by decide, by decide, by decide +kernel⟩ ⟨Nat.le_of_ble_eq_true rfl, Nat.le_of_ble_eq_true rfl⟩) (va_recv hK hP (ci := 14) (q0 := 0) rfl rfl) (fun _ h9 => h9) (fun a9 h9 => hA a9 (Nat.le_trans hS.1 h9)) hG hS hP hK hD rfl hl.1 rfl (Nat.le_of_ble_eq_true rfl) dX10_setRule_70 ⟨Nat.le_of_ble_eq_true rfl, Nat.le_of_ble_eq_true rfl⟩ (fun r_7 u_7 H locs hw hz1 hk1 hP hS => ?_)
      have hP : va_P D vwCl (fz_WM k q f pa (va_up v 0 0)) H := hP
      have hD : va_D A (fz_WM k q f pa (va_up v 0 0)) := fz_Dsame hD rfl
      obtain rfl : r_7 = 0 := hw
      refine lv_if_eq (tgt := 78) hx hb dX10_setRule_73 (by decide) (fun c_8 => ?_) (fun c_8 => absurd (by decide) c_8)
      refine lv_aload_n hx hb dX10_setRule_78 rfl (lv_at hl 1 rfl) ?_
      refine fz_cVv (As := []) (rest := []) S0 (m_remember l A D k q f pa (va_up v 0 0) g_v_5 g_pb_0) (fz_cwV (C := RX10) 0 hts fm_561 fm_562 fm_563 fm_564 fm_469 rfl rfl ⟨by decide, by decide, by decide +kernel⟩ ⟨Nat.le_of_ble_eq_true rfl, Nat.le_of_ble_eq_true rfl⟩) (va_recv hK hP (ci := 14) (q0 := 0) rfl rfl) (fun _ h9 => h9) (fun a9 h9 => hA a9 (Nat.le_trans hS.1 h9)) hG hS hP hK hD rfl hl.1 rfl (Nat.le_of_ble_eq_true rfl) dX10_setRule_79 ⟨Nat.le_of_ble_eq_true rfl, Nat.le_of_ble_eq_true rfl⟩ (fun u_9 H locs hw hz1 hk1 hP hS => ?_)
      have hP : va_P D vwCl (fz_WM k q (va_up f 7 u_9) pa (va_up (va_up v 0 0) 5 1)) H := hP
      have hD : va_D A (fz_WM k q (va_up f 7 u_9) pa (va_up (va_up v 0 0) 5 1)) := fz_Dsame hD rfl
      refine lv_aload_n hx hb dX10_setRule_82 rfl (lv_at hl 1 rfl) ?_
      refine lv_iload_n hx hb dX10_setRule_83 rfl (lv_at hl 2 rfl) ?_
      refine lv_bipush (v := 6) hx hb dX10_setRule_84 (by decide) ?_
      refine fz_cVi (As := [.int 0, .int 6]) (rest := []) S0 (m_of6 l A D k q (va_up f 7 u_9) pa (va_up (va_up v 0 0) 5 1) g_f_1_13) (fz_cwV (C := RX10) 2 hts fm_477 fm_478 fm_479 fm_480 fm_469 rfl rfl ⟨by decide, by decide, by decide +kernel⟩ ⟨Nat.le_of_ble_eq_true rfl, Nat.le_of_ble_eq_true rfl⟩) (va_recv hK hP (ci := 14) (q0 := 0) rfl rfl) (fun _ h9 => h9) (fun a9 h9 => hA a9 (Nat.le_trans hS.1 h9)) hG hS hP hK hD rfl hl.1 rfl (Nat.le_of_ble_eq_true rfl) dX10_setRule_86 ⟨Nat.le_of_ble_eq_true rfl, Nat.le_of_ble_eq_true rfl⟩ (fun r_10 u_10 H locs hw hz1 hk1 hP hS => ?_)
      have hP : va_P D vwCl (fz_WM k q (va_up f 7 u_9) pa (va_up (va_up v 0 0) 5 1)) H := hP
      obtain rfl : r_10 = (-1) := hw
      refine lv_istore (lv' := [(5, .int (-1)), (4, .int 1), (0, .ref (q 0)), (1, .int 0), (2, .int (-1)), (3, .int p2)]) hx hb dX10_setRule_89 hl (by decide) rfl (fun ls hl => ?_)
      refine lv_aload_n hx hb dX10_setRule_91 rfl (lv_at hl 2 rfl) ?_
      refine lv_iload_n hx hb dX10_setRule_92 rfl (lv_at hl 3 rfl) ?_
      refine lv_bipush (v := 6) hx hb dX10_setRule_93 (by decide) ?_
      refine lv_iload_n hx hb dX10_setRule_95 rfl (lv_at hl 4 rfl) ?_
      refine fz_cVv (As := [.int 0, .int 6, .int (-1)]) (rest := []) S0 (m_set0_6 l A D k q (va_up f 7 u_9) pa (va_up (va_up v 0 0) 5 1) (-1)) (fz_cwV (C := RX10) 3 hts fm_485 fm_486 fm_487 fm_488 fm_469 rfl rfl ⟨by decide, by decide, by decide +kernel⟩ ⟨Nat.le_of_ble_eq_true rfl, Nat.le_of_ble_eq_true rfl⟩) (va_recv hK hP (ci := 14) (q0 := 0) rfl rfl) (fun _ h9 => h9) (fun a9 h9 => hA a9 (Nat.le_trans hS.1 h9)) hG hS hP hK hD rfl hl.1 rfl (Nat.le_of_ble_eq_true rfl) dX10_setRule_96 ⟨Nat.le_of_ble_eq_true rfl, Nat.le_of_ble_eq_true rfl⟩ (fun u_11 H locs hw hz1 hk1 hP hS => ?_)
      have hP : va_P D vwCl (fz_WM k q (va_up (va_up f 7 u_9) 1 (upd (f 1) 13 (-1))) pa (va_up (va_up v 0 0) 5 1)) H := hP
      have hD : va_D A (fz_WM k q (va_up (va_up f 7 u_9) 1 (upd (f 1) 13 (-1))) pa (va_up (va_up v 0 0) 5 1)) := fz_Dsame hD rfl
      refine lv_aload_n hx hb dX10_setRule_99 rfl (lv_at hl 2 rfl) ?_
      refine lv_iload_n hx hb dX10_setRule_100 rfl (lv_at hl 3 rfl) ?_
      refine lv_bipush (v := 7) hx hb dX10_setRule_101 (by decide) ?_
      refine lv_iload_n hx hb dX10_setRule_103 rfl (lv_at hl 5 rfl) ?_
      refine fz_cVv (As := [.int 0, .int 7, .int p2]) (rest := []) S0 (m_set0_7 l A D k q (va_up (va_up f 7 u_9) 1 (upd (f 1) 13 (-1))) pa (va_up (va_up v 0 0) 5 1) p2) (fz_cwV (C := RX10) 3 hts fm_485 fm_486 fm_487 fm_488 fm_469 rfl rfl ⟨by decide, by decide, by decide +kernel⟩ ⟨Nat.le_of_ble_eq_true rfl, Nat.le_of_ble_eq_true rfl⟩) (va_recv hK hP (ci := 14) (q0 := 0) rfl rfl) (fun _ h9 => h9) (fun a9 h9 => hA a9 (Nat.le_trans hS.1 h9)) hG hS hP hK hD rfl hl.1 rfl (Nat.le_of_ble_eq_true rfl) dX10_setRule_104 ⟨Nat.le_of_ble_eq_true rfl, Nat.le_of_ble_eq_true rfl⟩ (fun u_12 H locs hw hz1 hk1 hP hS => ?_)
      have hP : va_P D vwCl (fz_WM k q (va_up (va_up f 7 u_9) 1 (upd (upd (f 1) 13 (-1)) 14 p2)) pa (va_up (va_up v 0 0) 5 1)) H := hP
      have hD : va_D A (fz_WM k q (va_up (va_up f 7 u_9) 1 (upd (upd (f 1) 13 (-1)) 14 p2)) pa (va_up (va_up v 0 0) 5 1)) := fz_Dsame hD rfl
      refine lv_iload hx hb dX10_setRule_107 (lv_at hl 0 rfl) ?_
      have hP : va_P D vwCl (fz_MO q (va_up (va_up v 0 0) 5 1)) H := hP.sub [0] rfl
      exact fz_iret hx hb hr rfl hlocks hS dX10_setRule_109 (va_up (va_up v 0 0) 5 1) (Or.inr (Or.inr ⟨rfl, rfl, (fq_115 p2)⟩)) hP (Nat.le_of_ble_eq_true rfl) (Nat.le_of_ble_eq_true rfl)
    · skip
      refine lv_if_ne (tgt := 51) hx hb dX10_setRule_44 (by decide) (fun c_13 => absurd (by decide) c_13) (fun c_13 => ?_)
      refine lv_iconst (v := 1) hx hb dX10_setRule_47 (by decide) ?_
      refine lv_goto (tgt := 52) hx hb dX10_setRule_48 (by decide) ?_
      refine fz_cVi (As := [.int 1, .int 1]) (rest := []) S0 (m_fails1 l A D k q f pa v 1) (fz_cwV (C := RX10) 2 hts fm_553 fm_554 fm_555 fm_556 fm_469 rfl rfl ⟨by decide, by decide, by decide +kernel⟩ ⟨Nat.le_of_ble_eq_true rfl, Nat.le_of_ble_eq_true rfl⟩) (va_recv hK hP (ci := 14) (q0 := 0) rfl rfl) (fun _ h9 => h9) (fun a9 h9 => hA a9 (Nat.le_trans hS.1 h9)) hG hS hP hK hD rfl hl.1 rfl (Nat.le_of_ble_eq_true rfl) dX10_setRule_52 ⟨Nat.le_of_ble_eq_true rfl, Nat.le_of_ble_eq_true rfl⟩ (fun r_14 u_14 H locs hw hz1 hk1 hP hS => ?_)
      have hP : va_P D vwCl (fz_WM k q f pa (va_up v 0 1)) H := hP
      have hD : va_D A (fz_WM k q f pa (va_up v 0 1)) := fz_Dsame hD rfl
      obtain rfl : r_14 = 1 := hw
      refine lv_if_ne (tgt := 76) hx hb dX10_setRule_55 (by decide) (fun c_15 => ?_) (fun c_15 => absurd c_15 (by decide))
      refine lv_iconst (v := 0) hx hb dX10_setRule_76 (by decide) ?_
      have hP : va_P D vwCl (fz_MO q (va_up v 0 1)) H := hP.sub [0] rfl
      exact fz_iret hx hb hr rfl hlocks hS dX10_setRule_77 (va_up v 0 1) (Or.inl ⟨rfl, rfl, (fq_28 p0 hq_2)⟩) hP (Nat.le_of_ble_eq_true rfl) (Nat.le_of_ble_eq_true rfl)
  · skip
    refine lv_iload_n hx hb dX10_setRule_5 rfl (lv_at hl 2 rfl) ?_
    refine lv_iconst (v := 2) hx hb dX10_setRule_6 (by decide) ?_
    refine lv_icmp_eq (tgt := 30) hx hb dX10_setRule_7 (by decide) (fun c_16 => ?_) (fun c_16 => ?_)
    · skip
      obtain rfl : p1 = 2 := (fq_116 p1 c_16)
      refine lv_iconst (v := 1) hx hb dX10_setRule_30 (by decide) ?_
      refine lv_goto (tgt := 35) hx hb dX10_setRule_31 (by decide) ?_
      refine lv_istore (lv' := [(4, .int 1), (0, .ref (q 0)), (1, .int p0), (2, .int 2), (3, .int p2)]) hx hb dX10_setRule_35 hl (by decide) rfl (fun ls hl => ?_)
      refine lv_aload_n hx hb dX10_setRule_37 rfl (lv_at hl 1 rfl) ?_
      refine lv_iconst (v := 1) hx hb dX10_setRule_38 (by decide) ?_
      refine lv_aload_n hx hb dX10_setRule_39 rfl (lv_at hl 1 rfl) ?_
      refine lv_iload_n hx hb dX10_setRule_40 rfl (lv_at hl 2 rfl) ?_
      refine fz_cVi (As := [.int p0]) (rest := [.int 1, .ref (q 0)]) S0 (m_isNode l A D k q f pa v p0 g_f_1_0 g_f_1_7) (fz_cwV (C := RX10) 1 hts fm_481 fm_482 fm_483 fm_484 fm_469 rfl rfl ⟨by decide, by decide, by decide +kernel⟩ ⟨Nat.le_of_ble_eq_true rfl, Nat.le_of_ble_eq_true rfl⟩) (va_recv hK hP (ci := 14) (q0 := 0) rfl rfl) (fun _ h9 => h9) (fun a9 h9 => hA a9 (Nat.le_trans hS.1 h9)) hG hS hP hK hD rfl hl.1 rfl (Nat.le_of_ble_eq_true rfl) dX10_setRule_41 ⟨Nat.le_of_ble_eq_true rfl, Nat.le_of_ble_eq_true rfl⟩ (fun r_17 u_17 H locs hw hz1 hk1 hP hS => ?_)
      have hP : va_P D vwCl (fz_WM k q f pa v) H := hP
      rcases (show (r_17 = 1 ∧ p0 = 0) ∨ (r_17 = 0 ∧ ¬ (p0 = 0)) from hw) with ⟨rfl, hq_17⟩ | ⟨rfl, hq_17⟩
      · skip
        obtain rfl : p0 = 0 := (fq_27 p0 hq_17)
        refine lv_if_ne (tgt := 51) hx hb dX10_setRule_44 (by decide) (fun c_18 => ?_) (fun c_18 => absurd c_18 (by decide))
        refine lv_iconst (v := 0) hx hb dX10_setRule_51 (by decide) ?_
        refine fz_cVi (As := [.int 1, .int 0]) (rest := []) S0 (m_fails0 l A D k q f pa v 1) (fz_cwV (C := RX10) 2 hts fm_553 fm_554 fm_555 fm_556 fm_469 rfl rfl ⟨by decide, by decide, by decide +kernel⟩ ⟨Nat.le_of_ble_eq_true rfl, Nat.le_of_ble_eq_true rfl⟩) (va_recv hK hP (ci := 14) (q0 := 0) rfl rfl) (fun _ h9 => h9) (fun a9 h9 => hA a9 (Nat.le_trans hS.1 h9)) hG hS hP hK hD rfl hl.1 rfl (Nat.le_of_ble_eq_true rfl) dX10_setRule_52 ⟨Nat.le_of_ble_eq_true rfl, Nat.le_of_ble_eq_true rfl⟩ (fun r_19 u_19 H locs hw hz1 hk1 hP hS => ?_)
        have hP : va_P D vwCl (fz_WM k q f pa (va_up v 0 0)) H := hP
        have hD : va_D A (fz_WM k q f pa (va_up v 0 0)) := fz_Dsame hD rfl
        obtain rfl : r_19 = 0 := hw
        refine lv_if_ne (tgt := 76) hx hb dX10_setRule_55 (by decide) (fun c_20 => absurd (by decide) c_20) (fun c_20 => ?_)
        refine lv_aload_n hx hb dX10_setRule_58 rfl (lv_at hl 1 rfl) ?_
        refine lv_iconst (v := 2) hx hb dX10_setRule_59 (by decide) ?_
        refine lv_iload hx hb dX10_setRule_60 (lv_at hl 0 rfl) ?_
        refine lv_if_ne (tgt := 69) hx hb dX10_setRule_62 (by decide) (fun c_21 => ?_) (fun c_21 => absurd c_21 (by decide))
        refine lv_iconst (v := 0) hx hb dX10_setRule_69 (by decide) ?_
        refine fz_cVi (As := [.int 2, .int 0]) (rest := []) S0 (m_fails0 l A D k q f pa (va_up v 0 0) 2) (fz_cwV (C := RX10) 2 hts fm_553 fm_554 fm_555 fm_556 fm_469 rfl rfl ⟨by decide, by decide, by decide +kernel⟩ ⟨Nat.le_of_ble_eq_true rfl, Nat.le_of_ble_eq_true rfl⟩) (va_recv hK hP (ci := 14) (q0 := 0) rfl rfl) (fun _ h9 => h9) (fun a9 h9 => hA a9 (Nat.le_trans hS.1 h9)) hG hS hP hK hD rfl hl.1 rfl (Nat.le_of_ble_eq_true rfl) dX10_setRule_70 ⟨Nat.le_of_ble_eq_true rfl, Nat.le_of_ble_eq_true rfl⟩ (fun r_22 u_22 H locs hw hz1 hk1 hP hS => ?_)
        have hP : va_P D vwCl (fz_WM k q f pa (va_up v 0 0)) H := hP
        have hD : va_D A (fz_WM k q f pa (va_up v 0 0)) := fz_Dsame hD rfl
        obtain rfl : r_22 = 0 := hw
        refine lv_if_eq (tgt := 78) hx hb dX10_setRule_73 (by decide) (fun c_23 => ?_) (fun c_23 => absurd (by decide) c_23)
        refine lv_aload_n hx hb dX10_setRule_78 rfl (lv_at hl 1 rfl) ?_
        refine fz_cVv (As := []) (rest := []) S0 (m_remember l A D k q f pa (va_up v 0 0) g_v_5 g_pb_0) (fz_cwV (C := RX10) 0 hts fm_561 fm_562 fm_563 fm_564 fm_469 rfl rfl ⟨by decide, by decide, by decide +kernel⟩ ⟨Nat.le_of_ble_eq_true rfl, Nat.le_of_ble_eq_true rfl⟩) (va_recv hK hP (ci := 14) (q0 := 0) rfl rfl) (fun _ h9 => h9) (fun a9 h9 => hA a9 (Nat.le_trans hS.1 h9)) hG hS hP hK hD rfl hl.1 rfl (Nat.le_of_ble_eq_true rfl) dX10_setRule_79 ⟨Nat.le_of_ble_eq_true rfl, Nat.le_of_ble_eq_true rfl⟩ (fun u_24 H locs hw hz1 hk1 hP hS => ?_)
        have hP : va_P D vwCl (fz_WM k q (va_up f 7 u_24) pa (va_up (va_up v 0 0) 5 1)) H := hP
        have hD : va_D A (fz_WM k q (va_up f 7 u_24) pa (va_up (va_up v 0 0) 5 1)) := fz_Dsame hD rfl
        refine lv_aload_n hx hb dX10_setRule_82 rfl (lv_at hl 1 rfl) ?_
        refine lv_iload_n hx hb dX10_setRule_83 rfl (lv_at hl 2 rfl) ?_
        refine lv_bipush (v := 6) hx hb dX10_setRule_84 (by decide) ?_
        refine fz_cVi (As := [.int 0, .int 6]) (rest := []) S0 (m_of6 l A D k q (va_up f 7 u_24) pa (va_up (va_up v 0 0) 5 1) g_f_1_13) (fz_cwV (C := RX10) 2 hts fm_477 fm_478 fm_479 fm_480 fm_469 rfl rfl ⟨by decide, by decide, by decide +kernel⟩ ⟨Nat.le_of_ble_eq_true rfl, Nat.le_of_ble_eq_true rfl⟩) (va_recv hK hP (ci := 14) (q0 := 0) rfl rfl) (fun _ h9 => h9) (fun a9 h9 => hA a9 (Nat.le_trans hS.1 h9)) hG hS hP hK hD rfl hl.1 rfl (Nat.le_of_ble_eq_true rfl) dX10_setRule_86 ⟨Nat.le_of_ble_eq_true rfl, Nat.le_of_ble_eq_true rfl⟩ (fun r_25 u_25 H locs hw hz1 hk1 hP hS => ?_)
        have hP : va_P D vwCl (fz_WM k q (va_up f 7 u_24) pa (va_up (va_up v 0 0) 5 1)) H := hP
        obtain rfl : r_25 = (-1) := hw
        refine lv_istore (lv' := [(5, .int (-1)), (4, .int 1), (0, .ref (q 0)), (1, .int 0), (2, .int 2), (3, .int p2)]) hx hb dX10_setRule_89 hl (by decide) rfl (fun ls hl => ?_)
        refine lv_aload_n hx hb dX10_setRule_91 rfl (lv_at hl 2 rfl) ?_
        refine lv_iload_n hx hb dX10_setRule_92 rfl (lv_at hl 3 rfl) ?_
        refine lv_bipush (v := 6) hx hb dX10_setRule_93 (by decide) ?_
        refine lv_iload_n hx hb dX10_setRule_95 rfl (lv_at hl 4 rfl) ?_
        refine fz_cVv (As := [.int 0, .int 6, .int 2]) (rest := []) S0 (m_set0_6 l A D k q (va_up f 7 u_24) pa (va_up (va_up v 0 0) 5 1) 2) (fz_cwV (C := RX10) 3 hts fm_485 fm_486 fm_487 fm_488 fm_469 rfl rfl ⟨by decide, by decide, by decide +kernel⟩ ⟨Nat.le_of_ble_eq_true rfl, Nat.le_of_ble_eq_true rfl⟩) (va_recv hK hP (ci := 14) (q0 := 0) rfl rfl) (fun _ h9 => h9) (fun a9 h9 => hA a9 (Nat.le_trans hS.1 h9)) hG hS hP hK hD rfl hl.1 rfl (Nat.le_of_ble_eq_true rfl) dX10_setRule_96 ⟨Nat.le_of_ble_eq_true rfl, Nat.le_of_ble_eq_true rfl⟩ (fun u_26 H locs hw hz1 hk1 hP hS => ?_)
        have hP : va_P D vwCl (fz_WM k q (va_up (va_up f 7 u_24) 1 (upd (f 1) 13 2)) pa (va_up (va_up v 0 0) 5 1)) H := hP
        have hD : va_D A (fz_WM k q (va_up (va_up f 7 u_24) 1 (upd (f 1) 13 2)) pa (va_up (va_up v 0 0) 5 1)) := fz_Dsame hD rfl
        refine lv_aload_n hx hb dX10_setRule_99 rfl (lv_at hl 2 rfl) ?_
        refine lv_iload_n hx hb dX10_setRule_100 rfl (lv_at hl 3 rfl) ?_
        refine lv_bipush (v := 7) hx hb dX10_setRule_101 (by decide) ?_
        refine lv_iload_n hx hb dX10_setRule_103 rfl (lv_at hl 5 rfl) ?_
        refine fz_cVv (As := [.int 0, .int 7, .int p2]) (rest := []) S0 (m_set0_7 l A D k q (va_up (va_up f 7 u_24) 1 (upd (f 1) 13 2)) pa (va_up (va_up v 0 0) 5 1) p2) (fz_cwV (C := RX10) 3 hts fm_485 fm_486 fm_487 fm_488 fm_469 rfl rfl ⟨by decide, by decide, by decide +kernel⟩ ⟨Nat.le_of_ble_eq_true rfl, Nat.le_of_ble_eq_true rfl⟩) (va_recv hK hP (ci := 14) (q0 := 0) rfl rfl) (fun _ h9 => h9) (fun a9 h9 => hA a9 (Nat.le_trans hS.1 h9)) hG hS hP hK hD rfl hl.1 rfl (Nat.le_of_ble_eq_true rfl) dX10_setRule_104 ⟨Nat.le_of_ble_eq_true rfl, Nat.le_of_ble_eq_true rfl⟩ (fun u_27 H locs hw hz1 hk1 hP hS => ?_)
        have hP : va_P D vwCl (fz_WM k q (va_up (va_up f 7 u_24) 1 (upd (upd (f 1) 13 2) 14 p2)) pa (va_up (va_up v 0 0) 5 1)) H := hP
        have hD : va_D A (fz_WM k q (va_up (va_up f 7 u_24) 1 (upd (upd (f 1) 13 2) 14 p2)) pa (va_up (va_up v 0 0) 5 1)) := fz_Dsame hD rfl
        refine lv_iload hx hb dX10_setRule_107 (lv_at hl 0 rfl) ?_
        have hP : va_P D vwCl (fz_MO q (va_up (va_up v 0 0) 5 1)) H := hP.sub [0] rfl
        exact fz_iret hx hb hr rfl hlocks hS dX10_setRule_109 (va_up (va_up v 0 0) 5 1) (Or.inr (Or.inr ⟨rfl, rfl, (fq_117 p2)⟩)) hP (Nat.le_of_ble_eq_true rfl) (Nat.le_of_ble_eq_true rfl)
      · skip
        refine lv_if_ne (tgt := 51) hx hb dX10_setRule_44 (by decide) (fun c_28 => absurd (by decide) c_28) (fun c_28 => ?_)
        refine lv_iconst (v := 1) hx hb dX10_setRule_47 (by decide) ?_
        refine lv_goto (tgt := 52) hx hb dX10_setRule_48 (by decide) ?_
        refine fz_cVi (As := [.int 1, .int 1]) (rest := []) S0 (m_fails1 l A D k q f pa v 1) (fz_cwV (C := RX10) 2 hts fm_553 fm_554 fm_555 fm_556 fm_469 rfl rfl ⟨by decide, by decide, by decide +kernel⟩ ⟨Nat.le_of_ble_eq_true rfl, Nat.le_of_ble_eq_true rfl⟩) (va_recv hK hP (ci := 14) (q0 := 0) rfl rfl) (fun _ h9 => h9) (fun a9 h9 => hA a9 (Nat.le_trans hS.1 h9)) hG hS hP hK hD rfl hl.1 rfl (Nat.le_of_ble_eq_true rfl) dX10_setRule_52 ⟨Nat.le_of_ble_eq_true rfl, Nat.le_of_ble_eq_true rfl⟩ (fun r_29 u_29 H locs hw hz1 hk1 hP hS => ?_)
        have hP : va_P D vwCl (fz_WM k q f pa (va_up v 0 1)) H := hP
        have hD : va_D A (fz_WM k q f pa (va_up v 0 1)) := fz_Dsame hD rfl
        obtain rfl : r_29 = 1 := hw
        refine lv_if_ne (tgt := 76) hx hb dX10_setRule_55 (by decide) (fun c_30 => ?_) (fun c_30 => absurd c_30 (by decide))
        refine lv_iconst (v := 0) hx hb dX10_setRule_76 (by decide) ?_
        have hP : va_P D vwCl (fz_MO q (va_up v 0 1)) H := hP.sub [0] rfl
        exact fz_iret hx hb hr rfl hlocks hS dX10_setRule_77 (va_up v 0 1) (Or.inl ⟨rfl, rfl, (fq_28 p0 hq_17)⟩) hP (Nat.le_of_ble_eq_true rfl) (Nat.le_of_ble_eq_true rfl)
    · skip
      refine lv_iload_n hx hb dX10_setRule_10 rfl (lv_at hl 2 rfl) ?_
      refine lv_iconst (v := 0) hx hb dX10_setRule_11 (by decide) ?_
      refine lv_iconst (v := 1) hx hb dX10_setRule_12 (by decide) ?_
      refine fz_cSi (As := [.int p1, .int 0, .int 1]) (rest := []) S0 (m_isBetween l A D k q f pa v p1 0 1) (fz_cwS 3 hts fm_474 fm_475 fm_476 fm_469 rfl rfl ⟨by decide, by decide, by decide +kernel⟩ ⟨Nat.le_of_ble_eq_true rfl, Nat.le_of_ble_eq_true rfl⟩) (fun _ h9 => h9) (fun a9 h9 => hA a9 (Nat.le_trans hS.1 h9)) hG hS hP hK hD rfl hl.1 rfl (Nat.le_of_ble_eq_true rfl) dX10_setRule_13 ⟨Nat.le_of_ble_eq_true rfl, Nat.le_of_ble_eq_true rfl⟩ (fun r_31 u_31 H locs hw hz1 hk1 hP hS => ?_)
      have hP : va_P D vwCl (fz_WM k q f pa v) H := hP
      rcases (show (r_31 = 1 ∧ (0 ≤ p1 ∧ p1 ≤ 1)) ∨ (r_31 = 0 ∧ ¬ ((0 ≤ p1 ∧ p1 ≤ 1))) from hw) with ⟨rfl, hq_31⟩ | ⟨rfl, hq_31⟩
      · skip
        refine lv_if_eq (tgt := 34) hx hb dX10_setRule_16 (by decide) (fun c_32 => absurd c_32 (by decide)) (fun c_32 => ?_)
        refine lv_iload_n hx hb dX10_setRule_19 rfl (lv_at hl 3 rfl) ?_
        refine lv_iconst (v := 1) hx hb dX10_setRule_20 (by decide) ?_
        refine lv_sipush (v := 5000) hx hb dX10_setRule_21 (by decide) ?_
        refine fz_cSi (As := [.int p2, .int 1, .int 5000]) (rest := []) S0 (m_isBetween l A D k q f pa v p2 1 5000) (fz_cwS 3 hts fm_474 fm_475 fm_476 fm_469 rfl rfl ⟨by decide, by decide, by decide +kernel⟩ ⟨Nat.le_of_ble_eq_true rfl, Nat.le_of_ble_eq_true rfl⟩) (fun _ h9 => h9) (fun a9 h9 => hA a9 (Nat.le_trans hS.1 h9)) hG hS hP hK hD rfl hl.1 rfl (Nat.le_of_ble_eq_true rfl) dX10_setRule_24 ⟨Nat.le_of_ble_eq_true rfl, Nat.le_of_ble_eq_true rfl⟩ (fun r_33 u_33 H locs hw hz1 hk1 hP hS => ?_)
        have hP : va_P D vwCl (fz_WM k q f pa v) H := hP
        rcases (show (r_33 = 1 ∧ (1 ≤ p2 ∧ p2 ≤ 5000)) ∨ (r_33 = 0 ∧ ¬ ((1 ≤ p2 ∧ p2 ≤ 5000))) from hw) with ⟨rfl, hq_33⟩ | ⟨rfl, hq_33⟩
        · skip
          refine lv_if_eq (tgt := 34) hx hb dX10_setRule_27 (by decide) (fun c_34 => absurd c_34 (by decide)) (fun c_34 => ?_)
          refine lv_iconst (v := 1) hx hb dX10_setRule_30 (by decide) ?_
          refine lv_goto (tgt := 35) hx hb dX10_setRule_31 (by decide) ?_
          refine lv_istore (lv' := [(4, .int 1), (0, .ref (q 0)), (1, .int p0), (2, .int p1), (3, .int p2)]) hx hb dX10_setRule_35 hl (by decide) rfl (fun ls hl => ?_)
          refine lv_aload_n hx hb dX10_setRule_37 rfl (lv_at hl 1 rfl) ?_
          refine lv_iconst (v := 1) hx hb dX10_setRule_38 (by decide) ?_
          refine lv_aload_n hx hb dX10_setRule_39 rfl (lv_at hl 1 rfl) ?_
          refine lv_iload_n hx hb dX10_setRule_40 rfl (lv_at hl 2 rfl) ?_
          refine fz_cVi (As := [.int p0]) (rest := [.int 1, .ref (q 0)]) S0 (m_isNode l A D k q f pa v p0 g_f_1_0 g_f_1_7) (fz_cwV (C := RX10) 1 hts fm_481 fm_482 fm_483 fm_484 fm_469 rfl rfl ⟨by decide, by decide, by decide +kernel⟩ ⟨Nat.le_of_ble_eq_true rfl, Nat.le_of_ble_eq_true rfl⟩) (va_recv hK hP (ci := 14) (q0 := 0) rfl rfl) (fun _ h9 => h9) (fun a9 h9 => hA a9 (Nat.le_trans hS.1 h9)) hG hS hP hK hD rfl hl.1 rfl (Nat.le_of_ble_eq_true rfl) dX10_setRule_41 ⟨Nat.le_of_ble_eq_true rfl, Nat.le_of_ble_eq_true rfl⟩ (fun r_35 u_35 H locs hw hz1 hk1 hP hS => ?_)
          have hP : va_P D vwCl (fz_WM k q f pa v) H := hP
          rcases (show (r_35 = 1 ∧ p0 = 0) ∨ (r_35 = 0 ∧ ¬ (p0 = 0)) from hw) with ⟨rfl, hq_35⟩ | ⟨rfl, hq_35⟩
          · skip
            obtain rfl : p0 = 0 := (fq_27 p0 hq_35)
            refine lv_if_ne (tgt := 51) hx hb dX10_setRule_44 (by decide) (fun c_36 => ?_) (fun c_36 => absurd c_36 (by decide))
            refine lv_iconst (v := 0) hx hb dX10_setRule_51 (by decide) ?_
            refine fz_cVi (As := [.int 1, .int 0]) (rest := []) S0 (m_fails0 l A D k q f pa v 1) (fz_cwV (C := RX10) 2 hts fm_553 fm_554 fm_555 fm_556 fm_469 rfl rfl ⟨by decide, by decide, by decide +kernel⟩ ⟨Nat.le_of_ble_eq_true rfl, Nat.le_of_ble_eq_true rfl⟩) (va_recv hK hP (ci := 14) (q0 := 0) rfl rfl) (fun _ h9 => h9) (fun a9 h9 => hA a9 (Nat.le_trans hS.1 h9)) hG hS hP hK hD rfl hl.1 rfl (Nat.le_of_ble_eq_true rfl) dX10_setRule_52 ⟨Nat.le_of_ble_eq_true rfl, Nat.le_of_ble_eq_true rfl⟩ (fun r_37 u_37 H locs hw hz1 hk1 hP hS => ?_)
            have hP : va_P D vwCl (fz_WM k q f pa (va_up v 0 0)) H := hP
            have hD : va_D A (fz_WM k q f pa (va_up v 0 0)) := fz_Dsame hD rfl
            obtain rfl : r_37 = 0 := hw
            refine lv_if_ne (tgt := 76) hx hb dX10_setRule_55 (by decide) (fun c_38 => absurd (by decide) c_38) (fun c_38 => ?_)
            refine lv_aload_n hx hb dX10_setRule_58 rfl (lv_at hl 1 rfl) ?_
            refine lv_iconst (v := 2) hx hb dX10_setRule_59 (by decide) ?_
            refine lv_iload hx hb dX10_setRule_60 (lv_at hl 0 rfl) ?_
            refine lv_if_ne (tgt := 69) hx hb dX10_setRule_62 (by decide) (fun c_39 => ?_) (fun c_39 => absurd c_39 (by decide))
            refine lv_iconst (v := 0) hx hb dX10_setRule_69 (by decide) ?_
            refine fz_cVi (As := [.int 2, .int 0]) (rest := []) S0 (m_fails0 l A D k q f pa (va_up v 0 0) 2) (fz_cwV (C := RX10) 2 hts fm_553 fm_554 fm_555 fm_556 fm_469 rfl rfl ⟨by decide, by decide, by decide +kernel⟩ ⟨Nat.le_of_ble_eq_true rfl, Nat.le_of_ble_eq_true rfl⟩) (va_recv hK hP (ci := 14) (q0 := 0) rfl rfl) (fun _ h9 => h9) (fun a9 h9 => hA a9 (Nat.le_trans hS.1 h9)) hG hS hP hK hD rfl hl.1 rfl (Nat.le_of_ble_eq_true rfl) dX10_setRule_70 ⟨Nat.le_of_ble_eq_true rfl, Nat.le_of_ble_eq_true rfl⟩ (fun r_40 u_40 H locs hw hz1 hk1 hP hS => ?_)
            have hP : va_P D vwCl (fz_WM k q f pa (va_up v 0 0)) H := hP
            have hD : va_D A (fz_WM k q f pa (va_up v 0 0)) := fz_Dsame hD rfl
            obtain rfl : r_40 = 0 := hw
            refine lv_if_eq (tgt := 78) hx hb dX10_setRule_73 (by decide) (fun c_41 => ?_) (fun c_41 => absurd (by decide) c_41)
            refine lv_aload_n hx hb dX10_setRule_78 rfl (lv_at hl 1 rfl) ?_
            refine fz_cVv (As := []) (rest := []) S0 (m_remember l A D k q f pa (va_up v 0 0) g_v_5 g_pb_0) (fz_cwV (C := RX10) 0 hts fm_561 fm_562 fm_563 fm_564 fm_469 rfl rfl ⟨by decide, by decide, by decide +kernel⟩ ⟨Nat.le_of_ble_eq_true rfl, Nat.le_of_ble_eq_true rfl⟩) (va_recv hK hP (ci := 14) (q0 := 0) rfl rfl) (fun _ h9 => h9) (fun a9 h9 => hA a9 (Nat.le_trans hS.1 h9)) hG hS hP hK hD rfl hl.1 rfl (Nat.le_of_ble_eq_true rfl) dX10_setRule_79 ⟨Nat.le_of_ble_eq_true rfl, Nat.le_of_ble_eq_true rfl⟩ (fun u_42 H locs hw hz1 hk1 hP hS => ?_)
            have hP : va_P D vwCl (fz_WM k q (va_up f 7 u_42) pa (va_up (va_up v 0 0) 5 1)) H := hP
            have hD : va_D A (fz_WM k q (va_up f 7 u_42) pa (va_up (va_up v 0 0) 5 1)) := fz_Dsame hD rfl
            refine lv_aload_n hx hb dX10_setRule_82 rfl (lv_at hl 1 rfl) ?_
            refine lv_iload_n hx hb dX10_setRule_83 rfl (lv_at hl 2 rfl) ?_
            refine lv_bipush (v := 6) hx hb dX10_setRule_84 (by decide) ?_
            refine fz_cVi (As := [.int 0, .int 6]) (rest := []) S0 (m_of6 l A D k q (va_up f 7 u_42) pa (va_up (va_up v 0 0) 5 1) g_f_1_13) (fz_cwV (C := RX10) 2 hts fm_477 fm_478 fm_479 fm_480 fm_469 rfl rfl ⟨by decide, by decide, by decide +kernel⟩ ⟨Nat.le_of_ble_eq_true rfl, Nat.le_of_ble_eq_true rfl⟩) (va_recv hK hP (ci := 14) (q0 := 0) rfl rfl) (fun _ h9 => h9) (fun a9 h9 => hA a9 (Nat.le_trans hS.1 h9)) hG hS hP hK hD rfl hl.1 rfl (Nat.le_of_ble_eq_true rfl) dX10_setRule_86 ⟨Nat.le_of_ble_eq_true rfl, Nat.le_of_ble_eq_true rfl⟩ (fun r_43 u_43 H locs hw hz1 hk1 hP hS => ?_)
            have hP : va_P D vwCl (fz_WM k q (va_up f 7 u_42) pa (va_up (va_up v 0 0) 5 1)) H := hP
            obtain rfl : r_43 = (-1) := hw
            refine lv_istore (lv' := [(5, .int (-1)), (4, .int 1), (0, .ref (q 0)), (1, .int 0), (2, .int p1), (3, .int p2)]) hx hb dX10_setRule_89 hl (by decide) rfl (fun ls hl => ?_)
            refine lv_aload_n hx hb dX10_setRule_91 rfl (lv_at hl 2 rfl) ?_
            refine lv_iload_n hx hb dX10_setRule_92 rfl (lv_at hl 3 rfl) ?_
            refine lv_bipush (v := 6) hx hb dX10_setRule_93 (by decide) ?_
            refine lv_iload_n hx hb dX10_setRule_95 rfl (lv_at hl 4 rfl) ?_
            refine fz_cVv (As := [.int 0, .int 6, .int p1]) (rest := []) S0 (m_set0_6 l A D k q (va_up f 7 u_42) pa (va_up (va_up v 0 0) 5 1) p1) (fz_cwV (C := RX10) 3 hts fm_485 fm_486 fm_487 fm_488 fm_469 rfl rfl ⟨by decide, by decide, by decide +kernel⟩ ⟨Nat.le_of_ble_eq_true rfl, Nat.le_of_ble_eq_true rfl⟩) (va_recv hK hP (ci := 14) (q0 := 0) rfl rfl) (fun _ h9 => h9) (fun a9 h9 => hA a9 (Nat.le_trans hS.1 h9)) hG hS hP hK hD rfl hl.1 rfl (Nat.le_of_ble_eq_true rfl) dX10_setRule_96 ⟨Nat.le_of_ble_eq_true rfl, Nat.le_of_ble_eq_true rfl⟩ (fun u_44 H locs hw hz1 hk1 hP hS => ?_)
            have hP : va_P D vwCl (fz_WM k q (va_up (va_up f 7 u_42) 1 (upd (f 1) 13 p1)) pa (va_up (va_up v 0 0) 5 1)) H := hP
            have hD : va_D A (fz_WM k q (va_up (va_up f 7 u_42) 1 (upd (f 1) 13 p1)) pa (va_up (va_up v 0 0) 5 1)) := fz_Dsame hD rfl
            refine lv_aload_n hx hb dX10_setRule_99 rfl (lv_at hl 2 rfl) ?_
            refine lv_iload_n hx hb dX10_setRule_100 rfl (lv_at hl 3 rfl) ?_
            refine lv_bipush (v := 7) hx hb dX10_setRule_101 (by decide) ?_
            refine lv_iload_n hx hb dX10_setRule_103 rfl (lv_at hl 5 rfl) ?_
            refine fz_cVv (As := [.int 0, .int 7, .int p2]) (rest := []) S0 (m_set0_7 l A D k q (va_up (va_up f 7 u_42) 1 (upd (f 1) 13 p1)) pa (va_up (va_up v 0 0) 5 1) p2) (fz_cwV (C := RX10) 3 hts fm_485 fm_486 fm_487 fm_488 fm_469 rfl rfl ⟨by decide, by decide, by decide +kernel⟩ ⟨Nat.le_of_ble_eq_true rfl, Nat.le_of_ble_eq_true rfl⟩) (va_recv hK hP (ci := 14) (q0 := 0) rfl rfl) (fun _ h9 => h9) (fun a9 h9 => hA a9 (Nat.le_trans hS.1 h9)) hG hS hP hK hD rfl hl.1 rfl (Nat.le_of_ble_eq_true rfl) dX10_setRule_104 ⟨Nat.le_of_ble_eq_true rfl, Nat.le_of_ble_eq_true rfl⟩ (fun u_45 H locs hw hz1 hk1 hP hS => ?_)
            have hP : va_P D vwCl (fz_WM k q (va_up (va_up f 7 u_42) 1 (upd (upd (f 1) 13 p1) 14 p2)) pa (va_up (va_up v 0 0) 5 1)) H := hP
            have hD : va_D A (fz_WM k q (va_up (va_up f 7 u_42) 1 (upd (upd (f 1) 13 p1) 14 p2)) pa (va_up (va_up v 0 0) 5 1)) := fz_Dsame hD rfl
            refine lv_iload hx hb dX10_setRule_107 (lv_at hl 0 rfl) ?_
            have hP : va_P D vwCl (fz_MO q (va_up (va_up v 0 0) 5 1)) H := hP.sub [0] rfl
            exact fz_iret hx hb hr rfl hlocks hS dX10_setRule_109 (va_up (va_up v 0 0) 5 1) (Or.inr (Or.inr ⟨rfl, rfl, (fq_118 p1 p2 hq_31 hq_33)⟩)) hP (Nat.le_of_ble_eq_true rfl) (Nat.le_of_ble_eq_true rfl)
          · skip
            refine lv_if_ne (tgt := 51) hx hb dX10_setRule_44 (by decide) (fun c_46 => absurd (by decide) c_46) (fun c_46 => ?_)
            refine lv_iconst (v := 1) hx hb dX10_setRule_47 (by decide) ?_
            refine lv_goto (tgt := 52) hx hb dX10_setRule_48 (by decide) ?_
            refine fz_cVi (As := [.int 1, .int 1]) (rest := []) S0 (m_fails1 l A D k q f pa v 1) (fz_cwV (C := RX10) 2 hts fm_553 fm_554 fm_555 fm_556 fm_469 rfl rfl ⟨by decide, by decide, by decide +kernel⟩ ⟨Nat.le_of_ble_eq_true rfl, Nat.le_of_ble_eq_true rfl⟩) (va_recv hK hP (ci := 14) (q0 := 0) rfl rfl) (fun _ h9 => h9) (fun a9 h9 => hA a9 (Nat.le_trans hS.1 h9)) hG hS hP hK hD rfl hl.1 rfl (Nat.le_of_ble_eq_true rfl) dX10_setRule_52 ⟨Nat.le_of_ble_eq_true rfl, Nat.le_of_ble_eq_true rfl⟩ (fun r_47 u_47 H locs hw hz1 hk1 hP hS => ?_)
            have hP : va_P D vwCl (fz_WM k q f pa (va_up v 0 1)) H := hP
            have hD : va_D A (fz_WM k q f pa (va_up v 0 1)) := fz_Dsame hD rfl
            obtain rfl : r_47 = 1 := hw
            refine lv_if_ne (tgt := 76) hx hb dX10_setRule_55 (by decide) (fun c_48 => ?_) (fun c_48 => absurd c_48 (by decide))
            refine lv_iconst (v := 0) hx hb dX10_setRule_76 (by decide) ?_
            have hP : va_P D vwCl (fz_MO q (va_up v 0 1)) H := hP.sub [0] rfl
            exact fz_iret hx hb hr rfl hlocks hS dX10_setRule_77 (va_up v 0 1) (Or.inl ⟨rfl, rfl, (fq_28 p0 hq_35)⟩) hP (Nat.le_of_ble_eq_true rfl) (Nat.le_of_ble_eq_true rfl)
        · skip
          refine lv_if_eq (tgt := 34) hx hb dX10_setRule_27 (by decide) (fun c_49 => ?_) (fun c_49 => absurd (by decide) c_49)
          refine lv_iconst (v := 0) hx hb dX10_setRule_34 (by decide) ?_
          refine lv_istore (lv' := [(4, .int 0), (0, .ref (q 0)), (1, .int p0), (2, .int p1), (3, .int p2)]) hx hb dX10_setRule_35 hl (by decide) rfl (fun ls hl => ?_)
          refine lv_aload_n hx hb dX10_setRule_37 rfl (lv_at hl 1 rfl) ?_
          refine lv_iconst (v := 1) hx hb dX10_setRule_38 (by decide) ?_
          refine lv_aload_n hx hb dX10_setRule_39 rfl (lv_at hl 1 rfl) ?_
          refine lv_iload_n hx hb dX10_setRule_40 rfl (lv_at hl 2 rfl) ?_
          refine fz_cVi (As := [.int p0]) (rest := [.int 1, .ref (q 0)]) S0 (m_isNode l A D k q f pa v p0 g_f_1_0 g_f_1_7) (fz_cwV (C := RX10) 1 hts fm_481 fm_482 fm_483 fm_484 fm_469 rfl rfl ⟨by decide, by decide, by decide +kernel⟩ ⟨Nat.le_of_ble_eq_true rfl, Nat.le_of_ble_eq_true rfl⟩) (va_recv hK hP (ci := 14) (q0 := 0) rfl rfl) (fun _ h9 => h9) (fun a9 h9 => hA a9 (Nat.le_trans hS.1 h9)) hG hS hP hK hD rfl hl.1 rfl (Nat.le_of_ble_eq_true rfl) dX10_setRule_41 ⟨Nat.le_of_ble_eq_true rfl, Nat.le_of_ble_eq_true rfl⟩ (fun r_50 u_50 H locs hw hz1 hk1 hP hS => ?_)
          have hP : va_P D vwCl (fz_WM k q f pa v) H := hP
          rcases (show (r_50 = 1 ∧ p0 = 0) ∨ (r_50 = 0 ∧ ¬ (p0 = 0)) from hw) with ⟨rfl, hq_50⟩ | ⟨rfl, hq_50⟩
          · skip
            obtain rfl : p0 = 0 := (fq_27 p0 hq_50)
            refine lv_if_ne (tgt := 51) hx hb dX10_setRule_44 (by decide) (fun c_51 => ?_) (fun c_51 => absurd c_51 (by decide))
            refine lv_iconst (v := 0) hx hb dX10_setRule_51 (by decide) ?_
            refine fz_cVi (As := [.int 1, .int 0]) (rest := []) S0 (m_fails0 l A D k q f pa v 1) (fz_cwV (C := RX10) 2 hts fm_553 fm_554 fm_555 fm_556 fm_469 rfl rfl ⟨by decide, by decide, by decide +kernel⟩ ⟨Nat.le_of_ble_eq_true rfl, Nat.le_of_ble_eq_true rfl⟩) (va_recv hK hP (ci := 14) (q0 := 0) rfl rfl) (fun _ h9 => h9) (fun a9 h9 => hA a9 (Nat.le_trans hS.1 h9)) hG hS hP hK hD rfl hl.1 rfl (Nat.le_of_ble_eq_true rfl) dX10_setRule_52 ⟨Nat.le_of_ble_eq_true rfl, Nat.le_of_ble_eq_true rfl⟩ (fun r_52 u_52 H locs hw hz1 hk1 hP hS => ?_)
            have hP : va_P D vwCl (fz_WM k q f pa (va_up v 0 0)) H := hP
            have hD : va_D A (fz_WM k q f pa (va_up v 0 0)) := fz_Dsame hD rfl
            obtain rfl : r_52 = 0 := hw
            refine lv_if_ne (tgt := 76) hx hb dX10_setRule_55 (by decide) (fun c_53 => absurd (by decide) c_53) (fun c_53 => ?_)
            refine lv_aload_n hx hb dX10_setRule_58 rfl (lv_at hl 1 rfl) ?_
            refine lv_iconst (v := 2) hx hb dX10_setRule_59 (by decide) ?_
            refine lv_iload hx hb dX10_setRule_60 (lv_at hl 0 rfl) ?_
            refine lv_if_ne (tgt := 69) hx hb dX10_setRule_62 (by decide) (fun c_54 => absurd (by decide) c_54) (fun c_54 => ?_)
            refine lv_iconst (v := 1) hx hb dX10_setRule_65 (by decide) ?_
            refine lv_goto (tgt := 70) hx hb dX10_setRule_66 (by decide) ?_
            refine fz_cVi (As := [.int 2, .int 1]) (rest := []) S0 (m_fails1 l A D k q f pa (va_up v 0 0) 2) (fz_cwV (C := RX10) 2 hts fm_553 fm_554 fm_555 fm_556 fm_469 rfl rfl ⟨by decide, by decide, by decide +kernel⟩ ⟨Nat.le_of_ble_eq_true rfl, Nat.le_of_ble_eq_true rfl⟩) (va_recv hK hP (ci := 14) (q0 := 0) rfl rfl) (fun _ h9 => h9) (fun a9 h9 => hA a9 (Nat.le_trans hS.1 h9)) hG hS hP hK hD rfl hl.1 rfl (Nat.le_of_ble_eq_true rfl) dX10_setRule_70 ⟨Nat.le_of_ble_eq_true rfl, Nat.le_of_ble_eq_true rfl⟩ (fun r_55 u_55 H locs hw hz1 hk1 hP hS => ?_)
            have hP : va_P D vwCl (fz_WM k q f pa (va_up v 0 2)) H := hP
            have hD : va_D A (fz_WM k q f pa (va_up v 0 2)) := fz_Dsame hD rfl
            obtain rfl : r_55 = 1 := hw
            refine lv_if_eq (tgt := 78) hx hb dX10_setRule_73 (by decide) (fun c_56 => absurd c_56 (by decide)) (fun c_56 => ?_)
            refine lv_iconst (v := 0) hx hb dX10_setRule_76 (by decide) ?_
            have hP : va_P D vwCl (fz_MO q (va_up v 0 2)) H := hP.sub [0] rfl
            exact fz_iret hx hb hr rfl hlocks hS dX10_setRule_77 (va_up v 0 2) (Or.inr (Or.inl ⟨rfl, rfl, (fq_119 p1 p2 hq_31 hq_33)⟩)) hP (Nat.le_of_ble_eq_true rfl) (Nat.le_of_ble_eq_true rfl)
          · skip
            refine lv_if_ne (tgt := 51) hx hb dX10_setRule_44 (by decide) (fun c_57 => absurd (by decide) c_57) (fun c_57 => ?_)
            refine lv_iconst (v := 1) hx hb dX10_setRule_47 (by decide) ?_
            refine lv_goto (tgt := 52) hx hb dX10_setRule_48 (by decide) ?_
            refine fz_cVi (As := [.int 1, .int 1]) (rest := []) S0 (m_fails1 l A D k q f pa v 1) (fz_cwV (C := RX10) 2 hts fm_553 fm_554 fm_555 fm_556 fm_469 rfl rfl ⟨by decide, by decide, by decide +kernel⟩ ⟨Nat.le_of_ble_eq_true rfl, Nat.le_of_ble_eq_true rfl⟩) (va_recv hK hP (ci := 14) (q0 := 0) rfl rfl) (fun _ h9 => h9) (fun a9 h9 => hA a9 (Nat.le_trans hS.1 h9)) hG hS hP hK hD rfl hl.1 rfl (Nat.le_of_ble_eq_true rfl) dX10_setRule_52 ⟨Nat.le_of_ble_eq_true rfl, Nat.le_of_ble_eq_true rfl⟩ (fun r_58 u_58 H locs hw hz1 hk1 hP hS => ?_)
            have hP : va_P D vwCl (fz_WM k q f pa (va_up v 0 1)) H := hP
            have hD : va_D A (fz_WM k q f pa (va_up v 0 1)) := fz_Dsame hD rfl
            obtain rfl : r_58 = 1 := hw
            refine lv_if_ne (tgt := 76) hx hb dX10_setRule_55 (by decide) (fun c_59 => ?_) (fun c_59 => absurd c_59 (by decide))
            refine lv_iconst (v := 0) hx hb dX10_setRule_76 (by decide) ?_
            have hP : va_P D vwCl (fz_MO q (va_up v 0 1)) H := hP.sub [0] rfl
            exact fz_iret hx hb hr rfl hlocks hS dX10_setRule_77 (va_up v 0 1) (Or.inl ⟨rfl, rfl, (fq_28 p0 hq_50)⟩) hP (Nat.le_of_ble_eq_true rfl) (Nat.le_of_ble_eq_true rfl)
      · skip
        refine lv_if_eq (tgt := 34) hx hb dX10_setRule_16 (by decide) (fun c_60 => ?_) (fun c_60 => absurd (by decide) c_60)
        refine lv_iconst (v := 0) hx hb dX10_setRule_34 (by decide) ?_
        refine lv_istore (lv' := [(4, .int 0), (0, .ref (q 0)), (1, .int p0), (2, .int p1), (3, .int p2)]) hx hb dX10_setRule_35 hl (by decide) rfl (fun ls hl => ?_)
        refine lv_aload_n hx hb dX10_setRule_37 rfl (lv_at hl 1 rfl) ?_
        refine lv_iconst (v := 1) hx hb dX10_setRule_38 (by decide) ?_
        refine lv_aload_n hx hb dX10_setRule_39 rfl (lv_at hl 1 rfl) ?_
        refine lv_iload_n hx hb dX10_setRule_40 rfl (lv_at hl 2 rfl) ?_
        refine fz_cVi (As := [.int p0]) (rest := [.int 1, .ref (q 0)]) S0 (m_isNode l A D k q f pa v p0 g_f_1_0 g_f_1_7) (fz_cwV (C := RX10) 1 hts fm_481 fm_482 fm_483 fm_484 fm_469 rfl rfl ⟨by decide, by decide, by decide +kernel⟩ ⟨Nat.le_of_ble_eq_true rfl, Nat.le_of_ble_eq_true rfl⟩) (va_recv hK hP (ci := 14) (q0 := 0) rfl rfl) (fun _ h9 => h9) (fun a9 h9 => hA a9 (Nat.le_trans hS.1 h9)) hG hS hP hK hD rfl hl.1 rfl (Nat.le_of_ble_eq_true rfl) dX10_setRule_41 ⟨Nat.le_of_ble_eq_true rfl, Nat.le_of_ble_eq_true rfl⟩ (fun r_61 u_61 H locs hw hz1 hk1 hP hS => ?_)
        have hP : va_P D vwCl (fz_WM k q f pa v) H := hP
        rcases (show (r_61 = 1 ∧ p0 = 0) ∨ (r_61 = 0 ∧ ¬ (p0 = 0)) from hw) with ⟨rfl, hq_61⟩ | ⟨rfl, hq_61⟩
        · skip
          obtain rfl : p0 = 0 := (fq_27 p0 hq_61)
          refine lv_if_ne (tgt := 51) hx hb dX10_setRule_44 (by decide) (fun c_62 => ?_) (fun c_62 => absurd c_62 (by decide))
          refine lv_iconst (v := 0) hx hb dX10_setRule_51 (by decide) ?_
          refine fz_cVi (As := [.int 1, .int 0]) (rest := []) S0 (m_fails0 l A D k q f pa v 1) (fz_cwV (C := RX10) 2 hts fm_553 fm_554 fm_555 fm_556 fm_469 rfl rfl ⟨by decide, by decide, by decide +kernel⟩ ⟨Nat.le_of_ble_eq_true rfl, Nat.le_of_ble_eq_true rfl⟩) (va_recv hK hP (ci := 14) (q0 := 0) rfl rfl) (fun _ h9 => h9) (fun a9 h9 => hA a9 (Nat.le_trans hS.1 h9)) hG hS hP hK hD rfl hl.1 rfl (Nat.le_of_ble_eq_true rfl) dX10_setRule_52 ⟨Nat.le_of_ble_eq_true rfl, Nat.le_of_ble_eq_true rfl⟩ (fun r_63 u_63 H locs hw hz1 hk1 hP hS => ?_)
          have hP : va_P D vwCl (fz_WM k q f pa (va_up v 0 0)) H := hP
          have hD : va_D A (fz_WM k q f pa (va_up v 0 0)) := fz_Dsame hD rfl
          obtain rfl : r_63 = 0 := hw
          refine lv_if_ne (tgt := 76) hx hb dX10_setRule_55 (by decide) (fun c_64 => absurd (by decide) c_64) (fun c_64 => ?_)
          refine lv_aload_n hx hb dX10_setRule_58 rfl (lv_at hl 1 rfl) ?_
          refine lv_iconst (v := 2) hx hb dX10_setRule_59 (by decide) ?_
          refine lv_iload hx hb dX10_setRule_60 (lv_at hl 0 rfl) ?_
          refine lv_if_ne (tgt := 69) hx hb dX10_setRule_62 (by decide) (fun c_65 => absurd (by decide) c_65) (fun c_65 => ?_)
          refine lv_iconst (v := 1) hx hb dX10_setRule_65 (by decide) ?_
          refine lv_goto (tgt := 70) hx hb dX10_setRule_66 (by decide) ?_
          refine fz_cVi (As := [.int 2, .int 1]) (rest := []) S0 (m_fails1 l A D k q f pa (va_up v 0 0) 2) (fz_cwV (C := RX10) 2 hts fm_553 fm_554 fm_555 fm_556 fm_469 rfl rfl ⟨by decide, by decide, by decide +kernel⟩ ⟨Nat.le_of_ble_eq_true rfl, Nat.le_of_ble_eq_true rfl⟩) (va_recv hK hP (ci := 14) (q0 := 0) rfl rfl) (fun _ h9 => h9) (fun a9 h9 => hA a9 (Nat.le_trans hS.1 h9)) hG hS hP hK hD rfl hl.1 rfl (Nat.le_of_ble_eq_true rfl) dX10_setRule_70 ⟨Nat.le_of_ble_eq_true rfl, Nat.le_of_ble_eq_true rfl⟩ (fun r_66 u_66 H locs hw hz1 hk1 hP hS => ?_)
          have hP : va_P D vwCl (fz_WM k q f pa (va_up v 0 2)) H := hP
          have hD : va_D A (fz_WM k q f pa (va_up v 0 2)) := fz_Dsame hD rfl
          obtain rfl : r_66 = 1 := hw
          refine lv_if_eq (tgt := 78) hx hb dX10_setRule_73 (by decide) (fun c_67 => absurd c_67 (by decide)) (fun c_67 => ?_)
          refine lv_iconst (v := 0) hx hb dX10_setRule_76 (by decide) ?_
          have hP : va_P D vwCl (fz_MO q (va_up v 0 2)) H := hP.sub [0] rfl
          exact fz_iret hx hb hr rfl hlocks hS dX10_setRule_77 (va_up v 0 2) (Or.inr (Or.inl ⟨rfl, rfl, (fq_120 p1 p2 c_1 c_16 hq_31)⟩)) hP (Nat.le_of_ble_eq_true rfl) (Nat.le_of_ble_eq_true rfl)
        · skip
          refine lv_if_ne (tgt := 51) hx hb dX10_setRule_44 (by decide) (fun c_68 => absurd (by decide) c_68) (fun c_68 => ?_)
          refine lv_iconst (v := 1) hx hb dX10_setRule_47 (by decide) ?_
          refine lv_goto (tgt := 52) hx hb dX10_setRule_48 (by decide) ?_
          refine fz_cVi (As := [.int 1, .int 1]) (rest := []) S0 (m_fails1 l A D k q f pa v 1) (fz_cwV (C := RX10) 2 hts fm_553 fm_554 fm_555 fm_556 fm_469 rfl rfl ⟨by decide, by decide, by decide +kernel⟩ ⟨Nat.le_of_ble_eq_true rfl, Nat.le_of_ble_eq_true rfl⟩) (va_recv hK hP (ci := 14) (q0 := 0) rfl rfl) (fun _ h9 => h9) (fun a9 h9 => hA a9 (Nat.le_trans hS.1 h9)) hG hS hP hK hD rfl hl.1 rfl (Nat.le_of_ble_eq_true rfl) dX10_setRule_52 ⟨Nat.le_of_ble_eq_true rfl, Nat.le_of_ble_eq_true rfl⟩ (fun r_69 u_69 H locs hw hz1 hk1 hP hS => ?_)
          have hP : va_P D vwCl (fz_WM k q f pa (va_up v 0 1)) H := hP
          have hD : va_D A (fz_WM k q f pa (va_up v 0 1)) := fz_Dsame hD rfl
          obtain rfl : r_69 = 1 := hw
          refine lv_if_ne (tgt := 76) hx hb dX10_setRule_55 (by decide) (fun c_70 => ?_) (fun c_70 => absurd c_70 (by decide))
          refine lv_iconst (v := 0) hx hb dX10_setRule_76 (by decide) ?_
          have hP : va_P D vwCl (fz_MO q (va_up v 0 1)) H := hP.sub [0] rfl
          exact fz_iret hx hb hr rfl hlocks hS dX10_setRule_77 (va_up v 0 1) (Or.inl ⟨rfl, rfl, (fq_28 p0 hq_61)⟩) hP (Nat.le_of_ble_eq_true rfl) (Nat.le_of_ble_eq_true rfl)

set_option maxHeartbeats 4000000 in
set_option maxRecDepth 100000 in
theorem m_p_setPage (l : Launch) (A : Nat → Prop) (D : va_G) (k : Nat → ClassId) (q : Nat → Nat) (f : Nat → Nat → Int32) (pa : Nat → Option Nat) (v : Nat → Int32) (p0 p1 p2 : Int32) (g_f_1_0 : f 1 0 = 1) (g_f_1_7 : f 1 7 = 1) (g_f_1_10 : f 1 10 = 0)  :
    Met l yX10_setPage (fz_ws yX10_setPage cX10_setPage 5 (some .int)) { frames := 24, cells := 0, slots := 0, locals := 320 } (va_Pc [.ref (q 0), .int p0, .int p1, .int p2] (fz_PC A D (fz_tys k) (fz_WM k q f pa v))) (fz_QI D A (fun (u : Nat → Int32) => fz_MO q u) (fun (r : Int32) (u : Nat → Int32) => (r = 0 ∧ u 0 = 1 ∧ True))) 0 0 A := by
  refine fz_of (by decide +kernel) (Nat.le_of_ble_eq_true rfl) ?_
  intro p e s m below meth c hx hb hr hml hown hlocks hts hin hA hP hK hD hG hS ls hl
  have hown : s.vm.findClass RX10 = some m.cls := hown
  have S0 : CallFix p m c cX10_setPage 5 s [.ref (q 0), .int p0, .int p1, .int p2].toArray (fz_ws yX10_setPage cX10_setPage 5 (some .int)) RX10 := ⟨hx, hb, hml, hown, hts⟩
  have hl : lv_has ls 5 [(0, .ref (q 0)), (1, .int p0), (2, .int p1), (3, .int p2)] := hl
  refine lv_aload_n hx hb dX10_setPage_0 rfl (lv_at hl 0 rfl) ?_
  refine lv_iconst (v := 1) hx hb dX10_setPage_1 (by decide) ?_
  refine lv_aload_n hx hb dX10_setPage_2 rfl (lv_at hl 0 rfl) ?_
  refine lv_iload_n hx hb dX10_setPage_3 rfl (lv_at hl 1 rfl) ?_
  refine fz_cVi (As := [.int p0]) (rest := [.int 1, .ref (q 0)]) S0 (m_isNode l A D k q f pa v p0 g_f_1_0 g_f_1_7) (fz_cwV (C := RX10) 1 hts fm_481 fm_482 fm_483 fm_484 fm_469 rfl rfl ⟨by decide, by decide, by decide +kernel⟩ ⟨Nat.le_of_ble_eq_true rfl, Nat.le_of_ble_eq_true rfl⟩) (va_recv hK hP (ci := 14) (q0 := 0) rfl rfl) (fun _ h9 => h9) (fun a9 h9 => hA a9 (Nat.le_trans hS.1 h9)) hG hS hP hK hD rfl hl.1 rfl (Nat.le_of_ble_eq_true rfl) dX10_setPage_4 ⟨Nat.le_of_ble_eq_true rfl, Nat.le_of_ble_eq_true rfl⟩ (fun r_1 u_1 H locs hw hz1 hk1 hP hS => ?_)
  have hP : va_P D vwCl (fz_WM k q f pa v) H := hP
  rcases (show (r_1 = 1 ∧ p0 = 0) ∨ (r_1 = 0 ∧ ¬ (p0 = 0)) from hw) with ⟨rfl, hq_1⟩ | ⟨rfl, hq_1⟩
  · skip
    obtain rfl : p0 = 0 := (fq_27 p0 hq_1)
    refine lv_if_eq (tgt := 26) hx hb dX10_setPage_7 (by decide) (fun c_2 => absurd c_2 (by decide)) (fun c_2 => ?_)
    refine lv_iload_n hx hb dX10_setPage_10 rfl (lv_at hl 2 rfl) ?_
    refine lv_iconst (v := 0) hx hb dX10_setPage_11 (by decide) ?_
    refine lv_aload_n hx hb dX10_setPage_12 rfl (lv_at hl 0 rfl) ?_
    refine lv_iload_n hx hb dX10_setPage_13 rfl (lv_at hl 1 rfl) ?_
    refine lv_iconst (v := 3) hx hb dX10_setPage_14 (by decide) ?_
    refine fz_cVi (As := [.int 0, .int 3]) (rest := [.int 0, .int p1, .int 1, .ref (q 0)]) S0 (m_of3 l A D k q f pa v g_f_1_10) (fz_cwV (C := RX10) 2 hts fm_477 fm_478 fm_479 fm_480 fm_469 rfl rfl ⟨by decide, by decide, by decide +kernel⟩ ⟨Nat.le_of_ble_eq_true rfl, Nat.le_of_ble_eq_true rfl⟩) (va_recv hK hP (ci := 14) (q0 := 0) rfl rfl) (fun _ h9 => h9) (fun a9 h9 => hA a9 (Nat.le_trans hS.1 h9)) hG hS hP hK hD rfl hl.1 rfl (Nat.le_of_ble_eq_true rfl) dX10_setPage_15 ⟨Nat.le_of_ble_eq_true rfl, Nat.le_of_ble_eq_true rfl⟩ (fun r_3 u_3 H locs hw hz1 hk1 hP hS => ?_)
    have hP : va_P D vwCl (fz_WM k q f pa v) H := hP
    obtain rfl : r_3 = 0 := hw
    refine lv_iconst (v := 1) hx hb dX10_setPage_18 (by decide) ?_
    refine lv_isub hx hb dX10_setPage_19 ?_
    refine fz_I (y := (-1)) (by decide) ?_
    refine fz_cSi (As := [.int p1, .int 0, .int (-1)]) (rest := [.int 1, .ref (q 0)]) S0 (m_isBetween l A D k q f pa v p1 0 (-1)) (fz_cwS 3 hts fm_474 fm_475 fm_476 fm_469 rfl rfl ⟨by decide, by decide, by decide +kernel⟩ ⟨Nat.le_of_ble_eq_true rfl, Nat.le_of_ble_eq_true rfl⟩) (fun _ h9 => h9) (fun a9 h9 => hA a9 (Nat.le_trans hS.1 h9)) hG hS hP hK hD rfl hl.1 rfl (Nat.le_of_ble_eq_true rfl) dX10_setPage_20 ⟨Nat.le_of_ble_eq_true rfl, Nat.le_of_ble_eq_true rfl⟩ (fun r_4 u_4 H locs hw hz1 hk1 hP hS => ?_)
    have hP : va_P D vwCl (fz_WM k q f pa v) H := hP
    rcases (show (r_4 = 1 ∧ (0 ≤ p1 ∧ p1 ≤ (-1))) ∨ (r_4 = 0 ∧ ¬ ((0 ≤ p1 ∧ p1 ≤ (-1)))) from hw) with ⟨rfl, hq_4⟩ | ⟨rfl, hq_4⟩
    · skip
      exact (fq_113 p1 hq_4).elim
    · skip
      refine lv_if_ne (tgt := 30) hx hb dX10_setPage_23 (by decide) (fun c_5 => absurd (by decide) c_5) (fun c_5 => ?_)
      refine lv_iconst (v := 1) hx hb dX10_setPage_26 (by decide) ?_
      refine lv_goto (tgt := 31) hx hb dX10_setPage_27 (by decide) ?_
      refine fz_cVi (As := [.int 1, .int 1]) (rest := []) S0 (m_fails1 l A D k q f pa v 1) (fz_cwV (C := RX10) 2 hts fm_553 fm_554 fm_555 fm_556 fm_469 rfl rfl ⟨by decide, by decide, by decide +kernel⟩ ⟨Nat.le_of_ble_eq_true rfl, Nat.le_of_ble_eq_true rfl⟩) (va_recv hK hP (ci := 14) (q0 := 0) rfl rfl) (fun _ h9 => h9) (fun a9 h9 => hA a9 (Nat.le_trans hS.1 h9)) hG hS hP hK hD rfl hl.1 rfl (Nat.le_of_ble_eq_true rfl) dX10_setPage_31 ⟨Nat.le_of_ble_eq_true rfl, Nat.le_of_ble_eq_true rfl⟩ (fun r_6 u_6 H locs hw hz1 hk1 hP hS => ?_)
      have hP : va_P D vwCl (fz_WM k q f pa (va_up v 0 1)) H := hP
      have hD : va_D A (fz_WM k q f pa (va_up v 0 1)) := fz_Dsame hD rfl
      obtain rfl : r_6 = 1 := hw
      refine lv_if_ne (tgt := 61) hx hb dX10_setPage_34 (by decide) (fun c_7 => ?_) (fun c_7 => absurd c_7 (by decide))
      refine lv_iconst (v := 0) hx hb dX10_setPage_61 (by decide) ?_
      have hP : va_P D vwCl (fz_MO q (va_up v 0 1)) H := hP.sub [0] rfl
      exact fz_iret hx hb hr rfl hlocks hS dX10_setPage_62 (va_up v 0 1) ⟨rfl, rfl, trivial⟩ hP (Nat.le_of_ble_eq_true rfl) (Nat.le_of_ble_eq_true rfl)
  · skip
    refine lv_if_eq (tgt := 26) hx hb dX10_setPage_7 (by decide) (fun c_8 => ?_) (fun c_8 => absurd (by decide) c_8)
    refine lv_iconst (v := 1) hx hb dX10_setPage_26 (by decide) ?_
    refine lv_goto (tgt := 31) hx hb dX10_setPage_27 (by decide) ?_
    refine fz_cVi (As := [.int 1, .int 1]) (rest := []) S0 (m_fails1 l A D k q f pa v 1) (fz_cwV (C := RX10) 2 hts fm_553 fm_554 fm_555 fm_556 fm_469 rfl rfl ⟨by decide, by decide, by decide +kernel⟩ ⟨Nat.le_of_ble_eq_true rfl, Nat.le_of_ble_eq_true rfl⟩) (va_recv hK hP (ci := 14) (q0 := 0) rfl rfl) (fun _ h9 => h9) (fun a9 h9 => hA a9 (Nat.le_trans hS.1 h9)) hG hS hP hK hD rfl hl.1 rfl (Nat.le_of_ble_eq_true rfl) dX10_setPage_31 ⟨Nat.le_of_ble_eq_true rfl, Nat.le_of_ble_eq_true rfl⟩ (fun r_9 u_9 H locs hw hz1 hk1 hP hS => ?_)
    have hP : va_P D vwCl (fz_WM k q f pa (va_up v 0 1)) H := hP
    have hD : va_D A (fz_WM k q f pa (va_up v 0 1)) := fz_Dsame hD rfl
    obtain rfl : r_9 = 1 := hw
    refine lv_if_ne (tgt := 61) hx hb dX10_setPage_34 (by decide) (fun c_10 => ?_) (fun c_10 => absurd c_10 (by decide))
    refine lv_iconst (v := 0) hx hb dX10_setPage_61 (by decide) ?_
    have hP : va_P D vwCl (fz_MO q (va_up v 0 1)) H := hP.sub [0] rfl
    exact fz_iret hx hb hr rfl hlocks hS dX10_setPage_62 (va_up v 0 1) ⟨rfl, rfl, trivial⟩ hP (Nat.le_of_ble_eq_true rfl) (Nat.le_of_ble_eq_true rfl)

set_option maxHeartbeats 4000000 in
set_option maxRecDepth 100000 in
theorem m_p_restriction (l : Launch) (A : Nat → Prop) (D : va_G) (k : Nat → ClassId) (q : Nat → Nat) (f : Nat → Nat → Int32) (pa : Nat → Option Nat) (v : Nat → Int32) (p0 p1 : Int32) (g_f_1_0 : f 1 0 = 1) (g_f_1_7 : f 1 7 = 1) (g_f_1_9 : f 1 9 = (-1)) (g_f_1_13 : f 1 13 = (-1)) (g_f_1_12 : f 1 12 = (-1))  :
    Met l yX10_restriction (fz_ws yX10_restriction cX10_restriction 4 (some .int)) { frames := 48, cells := 0, slots := 0, locals := 640 } (va_Pc [.ref (q 0), .int p0, .int p1] (fz_PC A D (fz_tys k) (fz_WM k q f pa v))) (fz_QI D A (fun (u : Nat → Int32) => fz_MO q u) (fun (r : Int32) (u : Nat → Int32) => (r = 0 ∧ u 0 = 1 ∧ ¬ (p0 = 0)) ∨ (r = 0 ∧ u 0 = 2 ∧ (p0 = 0 ∧ ¬ ((0 ≤ p1 ∧ p1 ≤ 2)))) ∨ (r = 0 ∧ u 0 = 0 ∧ (p0 = 0 ∧ p1 = 0)) ∨ (r = (-1) ∧ u 0 = 0 ∧ (p0 = 0 ∧ (1 ≤ p1 ∧ p1 ≤ 2))))) 0 0 A := by
  refine fz_of (by decide +kernel) (Nat.le_of_ble_eq_true rfl) ?_
  intro p e s m below meth c hx hb hr hml hown hlocks hts hin hA hP hK hD hG hS ls hl
  have hown : s.vm.findClass RX10 = some m.cls := hown
  have S0 : CallFix p m c cX10_restriction 4 s [.ref (q 0), .int p0, .int p1].toArray (fz_ws yX10_restriction cX10_restriction 4 (some .int)) RX10 := ⟨hx, hb, hml, hown, hts⟩
  have hl : lv_has ls 4 [(0, .ref (q 0)), (1, .int p0), (2, .int p1)] := hl
  refine lv_aload_n hx hb dX10_restriction_0 rfl (lv_at hl 0 rfl) ?_
  refine lv_iconst (v := 1) hx hb dX10_restriction_1 (by decide) ?_
  refine lv_aload_n hx hb dX10_restriction_2 rfl (lv_at hl 0 rfl) ?_
  refine lv_iload_n hx hb dX10_restriction_3 rfl (lv_at hl 1 rfl) ?_
  refine fz_cVi (As := [.int p0]) (rest := [.int 1, .ref (q 0)]) S0 (m_isNode l A D k q f pa v p0 g_f_1_0 g_f_1_7) (fz_cwV (C := RX10) 1 hts fm_481 fm_482 fm_483 fm_484 fm_469 rfl rfl ⟨by decide, by decide, by decide +kernel⟩ ⟨Nat.le_of_ble_eq_true rfl, Nat.le_of_ble_eq_true rfl⟩) (va_recv hK hP (ci := 14) (q0 := 0) rfl rfl) (fun _ h9 => h9) (fun a9 h9 => hA a9 (Nat.le_trans hS.1 h9)) hG hS hP hK hD rfl hl.1 rfl (Nat.le_of_ble_eq_true rfl) dX10_restriction_4 ⟨Nat.le_of_ble_eq_true rfl, Nat.le_of_ble_eq_true rfl⟩ (fun r_1 u_1 H locs hw hz1 hk1 hP hS => ?_)
  have hP : va_P D vwCl (fz_WM k q f pa v) H := hP
  rcases (show (r_1 = 1 ∧ p0 = 0) ∨ (r_1 = 0 ∧ ¬ (p0 = 0)) from hw) with ⟨rfl, hq_1⟩ | ⟨rfl, hq_1⟩
  · skip
    obtain rfl : p0 = 0 := (fq_27 p0 hq_1)
    refine lv_if_ne (tgt := 14) hx hb dX10_restriction_7 (by decide) (fun c_2 => ?_) (fun c_2 => absurd c_2 (by decide))
    refine lv_iconst (v := 0) hx hb dX10_restriction_14 (by decide) ?_
    refine fz_cVi (As := [.int 1, .int 0]) (rest := []) S0 (m_fails0 l A D k q f pa v 1) (fz_cwV (C := RX10) 2 hts fm_553 fm_554 fm_555 fm_556 fm_469 rfl rfl ⟨by decide, by decide, by decide +kernel⟩ ⟨Nat.le_of_ble_eq_true rfl, Nat.le_of_ble_eq_true rfl⟩) (va_recv hK hP (ci := 14) (q0 := 0) rfl rfl) (fun _ h9 => h9) (fun a9 h9 => hA a9 (Nat.le_trans hS.1 h9)) hG hS hP hK hD rfl hl.1 rfl (Nat.le_of_ble_eq_true rfl) dX10_restriction_15 ⟨Nat.le_of_ble_eq_true rfl, Nat.le_of_ble_eq_true rfl⟩ (fun r_3 u_3 H locs hw hz1 hk1 hP hS => ?_)
    have hP : va_P D vwCl (fz_WM k q f pa (va_up v 0 0)) H := hP
    have hD : va_D A (fz_WM k q f pa (va_up v 0 0)) := fz_Dsame hD rfl
    obtain rfl : r_3 = 0 := hw
    refine lv_if_ne (tgt := 43) hx hb dX10_restriction_18 (by decide) (fun c_4 => absurd (by decide) c_4) (fun c_4 => ?_)
    refine lv_aload_n hx hb dX10_restriction_21 rfl (lv_at hl 0 rfl) ?_
    refine lv_iconst (v := 2) hx hb dX10_restriction_22 (by decide) ?_
    refine lv_iload_n hx hb dX10_restriction_23 rfl (lv_at hl 2 rfl) ?_
    refine lv_iconst (v := 0) hx hb dX10_restriction_24 (by decide) ?_
    refine lv_iconst (v := 2) hx hb dX10_restriction_25 (by decide) ?_
    refine fz_cSi (As := [.int p1, .int 0, .int 2]) (rest := [.int 2, .ref (q 0)]) S0 (m_isBetween l A D k q f pa (va_up v 0 0) p1 0 2) (fz_cwS 3 hts fm_474 fm_475 fm_476 fm_469 rfl rfl ⟨by decide, by decide, by decide +kernel⟩ ⟨Nat.le_of_ble_eq_true rfl, Nat.le_of_ble_eq_true rfl⟩) (fun _ h9 => h9) (fun a9 h9 => hA a9 (Nat.le_trans hS.1 h9)) hG hS hP hK hD rfl hl.1 rfl (Nat.le_of_ble_eq_true rfl) dX10_restriction_26 ⟨Nat.le_of_ble_eq_true rfl, Nat.le_of_ble_eq_true rfl⟩ (fun r_5 u_5 H locs hw hz1 hk1 hP hS => ?_)
    have hP : va_P D vwCl (fz_WM k q f pa (va_up v 0 0)) H := hP
    rcases (show (r_5 = 1 ∧ (0 ≤ p1 ∧ p1 ≤ 2)) ∨ (r_5 = 0 ∧ ¬ ((0 ≤ p1 ∧ p1 ≤ 2))) from hw) with ⟨rfl, hq_5⟩ | ⟨rfl, hq_5⟩
    · skip
      refine lv_if_ne (tgt := 36) hx hb dX10_restriction_29 (by decide) (fun c_6 => ?_) (fun c_6 => absurd c_6 (by decide))
      refine lv_iconst (v := 0) hx hb dX10_restriction_36 (by decide) ?_
      refine fz_cVi (As := [.int 2, .int 0]) (rest := []) S0 (m_fails0 l A D k q f pa (va_up v 0 0) 2) (fz_cwV (C := RX10) 2 hts fm_553 fm_554 fm_555 fm_556 fm_469 rfl rfl ⟨by decide, by decide, by decide +kernel⟩ ⟨Nat.le_of_ble_eq_true rfl, Nat.le_of_ble_eq_true rfl⟩) (va_recv hK hP (ci := 14) (q0 := 0) rfl rfl) (fun _ h9 => h9) (fun a9 h9 => hA a9 (Nat.le_trans hS.1 h9)) hG hS hP hK hD rfl hl.1 rfl (Nat.le_of_ble_eq_true rfl) dX10_restriction_37 ⟨Nat.le_of_ble_eq_true rfl, Nat.le_of_ble_eq_true rfl⟩ (fun r_7 u_7 H locs hw hz1 hk1 hP hS => ?_)
      have hP : va_P D vwCl (fz_WM k q f pa (va_up v 0 0)) H := hP
      have hD : va_D A (fz_WM k q f pa (va_up v 0 0)) := fz_Dsame hD rfl
      obtain rfl : r_7 = 0 := hw
      refine lv_if_eq (tgt := 45) hx hb dX10_restriction_40 (by decide) (fun c_8 => ?_) (fun c_8 => absurd (by decide) c_8)
      refine lv_aload_n hx hb dX10_restriction_45 rfl (lv_at hl 0 rfl) ?_
      refine lv_iload_n hx hb dX10_restriction_46 rfl (lv_at hl 1 rfl) ?_
      refine fz_cVi (As := [.int 0]) (rest := []) S0 (m_lastClosed l A D k q f pa (va_up v 0 0) g_f_1_9 g_f_1_13 g_f_1_0 g_f_1_7 g_f_1_12) (fz_cwV (C := RX10) 1 hts fm_513 fm_514 fm_515 fm_516 fm_469 rfl rfl ⟨by decide, by decide, by decide +kernel⟩ ⟨Nat.le_of_ble_eq_true rfl, Nat.le_of_ble_eq_true rfl⟩) (va_recv hK hP (ci := 14) (q0 := 0) rfl rfl) (fun _ h9 => h9) (fun a9 h9 => hA a9 (Nat.le_trans hS.1 h9)) hG hS hP hK hD rfl hl.1 rfl (Nat.le_of_ble_eq_true rfl) dX10_restriction_47 ⟨Nat.le_of_ble_eq_true rfl, Nat.le_of_ble_eq_true rfl⟩ (fun r_9 u_9 H locs hw hz1 hk1 hP hS => ?_)
      have hP : va_P D vwCl (fz_WM k q f pa (va_up (va_up (va_up v 0 0) 7 0) 8 (-1))) H := hP
      have hD : va_D A (fz_WM k q f pa (va_up (va_up (va_up v 0 0) 7 0) 8 (-1))) := fz_Dsame hD rfl
      obtain rfl : r_9 = (-1) := hw
      refine lv_istore_n (lv' := [(3, .int (-1)), (0, .ref (q 0)), (1, .int 0), (2, .int p1)]) hx hb dX10_restriction_50 rfl hl (by decide) rfl (fun ls hl => ?_)
      refine lv_iload_n hx hb dX10_restriction_51 rfl (lv_at hl 3 rfl) ?_
      refine lv_if_ne (tgt := 62) hx hb dX10_restriction_52 (by decide) (fun c_10 => ?_) (fun c_10 => ?_)
      · skip
        refine lv_iload_n hx hb dX10_restriction_62 rfl (lv_at hl 3 rfl) ?_
        refine lv_iconst (v := 1) hx hb dX10_restriction_63 (by decide) ?_
        refine lv_icmp_ne (tgt := 74) hx hb dX10_restriction_64 (by decide) (fun c_11 => ?_) (fun c_11 => ?_)
        · skip
          obtain rfl : p1 = 2 := (fq_56 p1 hq_5 c_10 c_11)
          refine lv_iload_n hx hb dX10_restriction_74 rfl (lv_at hl 0 rfl) ?_
          have hP : va_P D vwCl (fz_MO q (va_up (va_up (va_up v 0 0) 7 0) 8 (-1))) H := hP.sub [0] rfl
          exact fz_iret hx hb hr rfl hlocks hS dX10_restriction_75 (va_up (va_up (va_up v 0 0) 7 0) 8 (-1)) (Or.inr (Or.inr (Or.inr ⟨rfl, rfl, (fq_57 )⟩))) hP (Nat.le_of_ble_eq_true rfl) (Nat.le_of_ble_eq_true rfl)
        · skip
          obtain rfl : p1 = 1 := (fq_18 p1 c_11)
          refine lv_aload_n hx hb dX10_restriction_67 rfl (lv_at hl 1 rfl) ?_
          refine va_get (D := D) (ci := 14) (v := .int ((va_up (va_up (va_up v 0 0) 7 0) 8 (-1)) 8)) (C := RX10) (T := TX10) (N := 22) hx hb hts (fun w9 h9 => fz_m (fin_X10 w9 h9)) hown hK hP 0 rfl rfl 8 (by decide) (hts _ (fz_m fm_504)) (fun _ h9 => h9) rfl dX10_restriction_68 ?_
          refine fz_I (y := (-1)) rfl ?_
          refine lv_goto (tgt := 75) hx hb dX10_restriction_71 (by decide) ?_
          have hP : va_P D vwCl (fz_MO q (va_up (va_up (va_up v 0 0) 7 0) 8 (-1))) H := hP.sub [0] rfl
          exact fz_iret hx hb hr rfl hlocks hS dX10_restriction_75 (va_up (va_up (va_up v 0 0) 7 0) 8 (-1)) (Or.inr (Or.inr (Or.inr ⟨rfl, rfl, (fq_55 )⟩))) hP (Nat.le_of_ble_eq_true rfl) (Nat.le_of_ble_eq_true rfl)
      · skip
        obtain rfl : p1 = 0 := (fq_27 p1 c_10)
        refine lv_aload_n hx hb dX10_restriction_55 rfl (lv_at hl 1 rfl) ?_
        refine va_get (D := D) (ci := 14) (v := .int ((va_up (va_up (va_up v 0 0) 7 0) 8 (-1)) 7)) (C := RX10) (T := TX10) (N := 22) hx hb hts (fun w9 h9 => fz_m (fin_X10 w9 h9)) hown hK hP 0 rfl rfl 7 (by decide) (hts _ (fz_m fm_503)) (fun _ h9 => h9) rfl dX10_restriction_56 ?_
        refine fz_I (y := 0) rfl ?_
        refine lv_goto (tgt := 75) hx hb dX10_restriction_59 (by decide) ?_
        have hP : va_P D vwCl (fz_MO q (va_up (va_up (va_up v 0 0) 7 0) 8 (-1))) H := hP.sub [0] rfl
        exact fz_iret hx hb hr rfl hlocks hS dX10_restriction_75 (va_up (va_up (va_up v 0 0) 7 0) 8 (-1)) (Or.inr (Or.inr (Or.inl ⟨rfl, rfl, (fq_40 )⟩))) hP (Nat.le_of_ble_eq_true rfl) (Nat.le_of_ble_eq_true rfl)
    · skip
      refine lv_if_ne (tgt := 36) hx hb dX10_restriction_29 (by decide) (fun c_12 => absurd (by decide) c_12) (fun c_12 => ?_)
      refine lv_iconst (v := 1) hx hb dX10_restriction_32 (by decide) ?_
      refine lv_goto (tgt := 37) hx hb dX10_restriction_33 (by decide) ?_
      refine fz_cVi (As := [.int 2, .int 1]) (rest := []) S0 (m_fails1 l A D k q f pa (va_up v 0 0) 2) (fz_cwV (C := RX10) 2 hts fm_553 fm_554 fm_555 fm_556 fm_469 rfl rfl ⟨by decide, by decide, by decide +kernel⟩ ⟨Nat.le_of_ble_eq_true rfl, Nat.le_of_ble_eq_true rfl⟩) (va_recv hK hP (ci := 14) (q0 := 0) rfl rfl) (fun _ h9 => h9) (fun a9 h9 => hA a9 (Nat.le_trans hS.1 h9)) hG hS hP hK hD rfl hl.1 rfl (Nat.le_of_ble_eq_true rfl) dX10_restriction_37 ⟨Nat.le_of_ble_eq_true rfl, Nat.le_of_ble_eq_true rfl⟩ (fun r_13 u_13 H locs hw hz1 hk1 hP hS => ?_)
      have hP : va_P D vwCl (fz_WM k q f pa (va_up v 0 2)) H := hP
      have hD : va_D A (fz_WM k q f pa (va_up v 0 2)) := fz_Dsame hD rfl
      obtain rfl : r_13 = 1 := hw
      refine lv_if_eq (tgt := 45) hx hb dX10_restriction_40 (by decide) (fun c_14 => absurd c_14 (by decide)) (fun c_14 => ?_)
      refine lv_iconst (v := 0) hx hb dX10_restriction_43 (by decide) ?_
      have hP : va_P D vwCl (fz_MO q (va_up v 0 2)) H := hP.sub [0] rfl
      exact fz_iret hx hb hr rfl hlocks hS dX10_restriction_44 (va_up v 0 2) (Or.inr (Or.inl ⟨rfl, rfl, (fq_121 p1 hq_5)⟩)) hP (Nat.le_of_ble_eq_true rfl) (Nat.le_of_ble_eq_true rfl)
  · skip
    refine lv_if_ne (tgt := 14) hx hb dX10_restriction_7 (by decide) (fun c_15 => absurd (by decide) c_15) (fun c_15 => ?_)
    refine lv_iconst (v := 1) hx hb dX10_restriction_10 (by decide) ?_
    refine lv_goto (tgt := 15) hx hb dX10_restriction_11 (by decide) ?_
    refine fz_cVi (As := [.int 1, .int 1]) (rest := []) S0 (m_fails1 l A D k q f pa v 1) (fz_cwV (C := RX10) 2 hts fm_553 fm_554 fm_555 fm_556 fm_469 rfl rfl ⟨by decide, by decide, by decide +kernel⟩ ⟨Nat.le_of_ble_eq_true rfl, Nat.le_of_ble_eq_true rfl⟩) (va_recv hK hP (ci := 14) (q0 := 0) rfl rfl) (fun _ h9 => h9) (fun a9 h9 => hA a9 (Nat.le_trans hS.1 h9)) hG hS hP hK hD rfl hl.1 rfl (Nat.le_of_ble_eq_true rfl) dX10_restriction_15 ⟨Nat.le_of_ble_eq_true rfl, Nat.le_of_ble_eq_true rfl⟩ (fun r_16 u_16 H locs hw hz1 hk1 hP hS => ?_)
    have hP : va_P D vwCl (fz_WM k q f pa (va_up v 0 1)) H := hP
    have hD : va_D A (fz_WM k q f pa (va_up v 0 1)) := fz_Dsame hD rfl
    obtain rfl : r_16 = 1 := hw
    refine lv_if_ne (tgt := 43) hx hb dX10_restriction_18 (by decide) (fun c_17 => ?_) (fun c_17 => absurd c_17 (by decide))
    refine lv_iconst (v := 0) hx hb dX10_restriction_43 (by decide) ?_
    have hP : va_P D vwCl (fz_MO q (va_up v 0 1)) H := hP.sub [0] rfl
    exact fz_iret hx hb hr rfl hlocks hS dX10_restriction_44 (va_up v 0 1) (Or.inl ⟨rfl, rfl, (fq_28 p0 hq_1)⟩) hP (Nat.le_of_ble_eq_true rfl) (Nat.le_of_ble_eq_true rfl)

set_option maxHeartbeats 4000000 in
set_option maxRecDepth 100000 in
theorem m_p_openPages (l : Launch) (A : Nat → Prop) (D : va_G) (k : Nat → ClassId) (q : Nat → Nat) (f : Nat → Nat → Int32) (pa : Nat → Option Nat) (v : Nat → Int32) (p0 p1 : Int32) (g_f_1_0 : f 1 0 = 1) (g_f_1_7 : f 1 7 = 1) (g_f_1_9 : f 1 9 = (-1)) (g_f_1_13 : f 1 13 = (-1)) (g_f_1_12 : f 1 12 = (-1)) (g_f_1_10 : f 1 10 = 0)  :
    Met l yX10_openPages (fz_ws yX10_openPages cX10_openPages 3 (some .int)) { frames := 60, cells := 0, slots := 0, locals := 800 } (va_Pc [.ref (q 0), .int p0, .int p1] (fz_PC A D (fz_tys k) (fz_WM k q f pa v))) (fz_QI D A (fun (u : Nat → Int32) => fz_MO q u) (fun (r : Int32) (u : Nat → Int32) => (r = 0 ∧ u 0 = 1 ∧ ¬ (p0 = 0)) ∨ (r = 0 ∧ u 0 = 2 ∧ (p0 = 0 ∧ ¬ ((0 ≤ p1 ∧ p1 ≤ 9999)))) ∨ (r = 0 ∧ u 0 = 0 ∧ (p0 = 0 ∧ (0 ≤ p1 ∧ p1 ≤ 9999))))) 0 0 A := by
  refine fz_of (by decide +kernel) (Nat.le_of_ble_eq_true rfl) ?_
  intro p e s m below meth c hx hb hr hml hown hlocks hts hin hA hP hK hD hG hS ls hl
  have hown : s.vm.findClass RX10 = some m.cls := hown
  have S0 : CallFix p m c cX10_openPages 3 s [.ref (q 0), .int p0, .int p1].toArray (fz_ws yX10_openPages cX10_openPages 3 (some .int)) RX10 := ⟨hx, hb, hml, hown, hts⟩
  have hl : lv_has ls 3 [(0, .ref (q 0)), (1, .int p0), (2, .int p1)] := hl
  refine lv_aload_n hx hb dX10_openPages_0 rfl (lv_at hl 0 rfl) ?_
  refine lv_iconst (v := 1) hx hb dX10_openPages_1 (by decide) ?_
  refine lv_aload_n hx hb dX10_openPages_2 rfl (lv_at hl 0 rfl) ?_
  refine lv_iload_n hx hb dX10_openPages_3 rfl (lv_at hl 1 rfl) ?_
  refine fz_cVi (As := [.int p0]) (rest := [.int 1, .ref (q 0)]) S0 (m_isNode l A D k q f pa v p0 g_f_1_0 g_f_1_7) (fz_cwV (C := RX10) 1 hts fm_481 fm_482 fm_483 fm_484 fm_469 rfl rfl ⟨by decide, by decide, by decide +kernel⟩ ⟨Nat.le_of_ble_eq_true rfl, Nat.le_of_ble_eq_true rfl⟩) (va_recv hK hP (ci := 14) (q0 := 0) rfl rfl) (fun _ h9 => h9) (fun a9 h9 => hA a9 (Nat.le_trans hS.1 h9)) hG hS hP hK hD rfl hl.1 rfl (Nat.le_of_ble_eq_true rfl) dX10_openPages_4 ⟨Nat.le_of_ble_eq_true rfl, Nat.le_of_ble_eq_true rfl⟩ (fun r_1 u_1 H locs hw hz1 hk1 hP hS => ?_)
  have hP : va_P D vwCl (fz_WM k q f pa v) H := hP
  rcases (show (r_1 = 1 ∧ p0 = 0) ∨ (r_1 = 0 ∧ ¬ (p0 = 0)) from hw) with ⟨rfl, hq_1⟩ | ⟨rfl, hq_1⟩
  · skip
    obtain rfl : p0 = 0 := (fq_27 p0 hq_1)
    refine lv_if_ne (tgt := 14) hx hb dX10_openPages_7 (by decide) (fun c_2 => ?_) (fun c_2 => absurd c_2 (by decide))
    refine lv_iconst (v := 0) hx hb dX10_openPages_14 (by decide) ?_
    refine fz_cVi (As := [.int 1, .int 0]) (rest := []) S0 (m_fails0 l A D k q f pa v 1) (fz_cwV (C := RX10) 2 hts fm_553 fm_554 fm_555 fm_556 fm_469 rfl rfl ⟨by decide, by decide, by decide +kernel⟩ ⟨Nat.le_of_ble_eq_true rfl, Nat.le_of_ble_eq_true rfl⟩) (va_recv hK hP (ci := 14) (q0 := 0) rfl rfl) (fun _ h9 => h9) (fun a9 h9 => hA a9 (Nat.le_trans hS.1 h9)) hG hS hP hK hD rfl hl.1 rfl (Nat.le_of_ble_eq_true rfl) dX10_openPages_15 ⟨Nat.le_of_ble_eq_true rfl, Nat.le_of_ble_eq_true rfl⟩ (fun r_3 u_3 H locs hw hz1 hk1 hP hS => ?_)
    have hP : va_P D vwCl (fz_WM k q f pa (va_up v 0 0)) H := hP
    have hD : va_D A (fz_WM k q f pa (va_up v 0 0)) := fz_Dsame hD rfl
    obtain rfl : r_3 = 0 := hw
    refine lv_if_ne (tgt := 41) hx hb dX10_openPages_18 (by decide) (fun c_4 => absurd (by decide) c_4) (fun c_4 => ?_)
    refine lv_aload_n hx hb dX10_openPages_21 rfl (lv_at hl 0 rfl) ?_
    refine lv_iconst (v := 2) hx hb dX10_openPages_22 (by decide) ?_
    refine lv_iload_n hx hb dX10_openPages_23 rfl (lv_at hl 2 rfl) ?_
    refine fz_cSi (As := [.int p1]) (rest := [.int 2, .ref (q 0)]) S0 (m_isDay l A D k q f pa (va_up v 0 0) p1) (fz_cwS 1 hts fm_489 fm_490 fm_491 fm_469 rfl rfl ⟨by decide, by decide, by decide +kernel⟩ ⟨Nat.le_of_ble_eq_true rfl, Nat.le_of_ble_eq_true rfl⟩) (fun _ h9 => h9) (fun a9 h9 => hA a9 (Nat.le_trans hS.1 h9)) hG hS hP hK hD rfl hl.1 rfl (Nat.le_of_ble_eq_true rfl) dX10_openPages_24 ⟨Nat.le_of_ble_eq_true rfl, Nat.le_of_ble_eq_true rfl⟩ (fun r_5 u_5 H locs hw hz1 hk1 hP hS => ?_)
    have hP : va_P D vwCl (fz_WM k q f pa (va_up v 0 0)) H := hP
    rcases (show (r_5 = 1 ∧ (0 ≤ p1 ∧ p1 ≤ 9999)) ∨ (r_5 = 0 ∧ ¬ ((0 ≤ p1 ∧ p1 ≤ 9999))) from hw) with ⟨rfl, hq_5⟩ | ⟨rfl, hq_5⟩
    · skip
      refine lv_if_ne (tgt := 34) hx hb dX10_openPages_27 (by decide) (fun c_6 => ?_) (fun c_6 => absurd c_6 (by decide))
      refine lv_iconst (v := 0) hx hb dX10_openPages_34 (by decide) ?_
      refine fz_cVi (As := [.int 2, .int 0]) (rest := []) S0 (m_fails0 l A D k q f pa (va_up v 0 0) 2) (fz_cwV (C := RX10) 2 hts fm_553 fm_554 fm_555 fm_556 fm_469 rfl rfl ⟨by decide, by decide, by decide +kernel⟩ ⟨Nat.le_of_ble_eq_true rfl, Nat.le_of_ble_eq_true rfl⟩) (va_recv hK hP (ci := 14) (q0 := 0) rfl rfl) (fun _ h9 => h9) (fun a9 h9 => hA a9 (Nat.le_trans hS.1 h9)) hG hS hP hK hD rfl hl.1 rfl (Nat.le_of_ble_eq_true rfl) dX10_openPages_35 ⟨Nat.le_of_ble_eq_true rfl, Nat.le_of_ble_eq_true rfl⟩ (fun r_7 u_7 H locs hw hz1 hk1 hP hS => ?_)
      have hP : va_P D vwCl (fz_WM k q f pa (va_up v 0 0)) H := hP
      have hD : va_D A (fz_WM k q f pa (va_up v 0 0)) := fz_Dsame hD rfl
      obtain rfl : r_7 = 0 := hw
      refine lv_if_eq (tgt := 45) hx hb dX10_openPages_38 (by decide) (fun c_8 => ?_) (fun c_8 => absurd (by decide) c_8)
      refine lv_aload_n hx hb dX10_openPages_45 rfl (lv_at hl 0 rfl) ?_
      refine lv_iload_n hx hb dX10_openPages_46 rfl (lv_at hl 1 rfl) ?_
      refine lv_iload_n hx hb dX10_openPages_47 rfl (lv_at hl 2 rfl) ?_
      refine fz_cVi (As := [.int 0, .int p1]) (rest := []) S0 (m_openSet l A D k q f pa (va_up v 0 0) p1 g_f_1_9 g_f_1_13 g_f_1_0 g_f_1_7 g_f_1_12 g_f_1_10) (fz_cwV (C := RX10) 2 hts fm_585 fm_586 fm_587 fm_588 fm_469 rfl rfl ⟨by decide, by decide, by decide +kernel⟩ ⟨Nat.le_of_ble_eq_true rfl, Nat.le_of_ble_eq_true rfl⟩) (va_recv hK hP (ci := 14) (q0 := 0) rfl rfl) (fun _ h9 => h9) (fun a9 h9 => hA a9 (Nat.le_trans hS.1 h9)) hG hS hP hK hD rfl hl.1 rfl (Nat.le_of_ble_eq_true rfl) dX10_openPages_48 ⟨Nat.le_of_ble_eq_true rfl, Nat.le_of_ble_eq_true rfl⟩ (fun r_9 u_9 H locs hw hz1 hk1 hP hS => ?_)
      have hP : va_P D vwCl (fz_WM k q f pa (va_up (va_up (va_up v 0 0) 7 0) 8 (-1))) H := hP
      have hD : va_D A (fz_WM k q f pa (va_up (va_up (va_up v 0 0) 7 0) 8 (-1))) := fz_Dsame hD rfl
      obtain rfl : r_9 = 0 := hw
      have hP : va_P D vwCl (fz_MO q (va_up (va_up (va_up v 0 0) 7 0) 8 (-1))) H := hP.sub [0] rfl
      exact fz_iret hx hb hr rfl hlocks hS dX10_openPages_51 (va_up (va_up (va_up v 0 0) 7 0) 8 (-1)) (Or.inr (Or.inr ⟨rfl, rfl, (fq_59 p1 hq_5)⟩)) hP (Nat.le_of_ble_eq_true rfl) (Nat.le_of_ble_eq_true rfl)
    · skip
      refine lv_if_ne (tgt := 34) hx hb dX10_openPages_27 (by decide) (fun c_10 => absurd (by decide) c_10) (fun c_10 => ?_)
      refine lv_iconst (v := 1) hx hb dX10_openPages_30 (by decide) ?_
      refine lv_goto (tgt := 35) hx hb dX10_openPages_31 (by decide) ?_
      refine fz_cVi (As := [.int 2, .int 1]) (rest := []) S0 (m_fails1 l A D k q f pa (va_up v 0 0) 2) (fz_cwV (C := RX10) 2 hts fm_553 fm_554 fm_555 fm_556 fm_469 rfl rfl ⟨by decide, by decide, by decide +kernel⟩ ⟨Nat.le_of_ble_eq_true rfl, Nat.le_of_ble_eq_true rfl⟩) (va_recv hK hP (ci := 14) (q0 := 0) rfl rfl) (fun _ h9 => h9) (fun a9 h9 => hA a9 (Nat.le_trans hS.1 h9)) hG hS hP hK hD rfl hl.1 rfl (Nat.le_of_ble_eq_true rfl) dX10_openPages_35 ⟨Nat.le_of_ble_eq_true rfl, Nat.le_of_ble_eq_true rfl⟩ (fun r_11 u_11 H locs hw hz1 hk1 hP hS => ?_)
      have hP : va_P D vwCl (fz_WM k q f pa (va_up v 0 2)) H := hP
      have hD : va_D A (fz_WM k q f pa (va_up v 0 2)) := fz_Dsame hD rfl
      obtain rfl : r_11 = 1 := hw
      refine lv_if_eq (tgt := 45) hx hb dX10_openPages_38 (by decide) (fun c_12 => absurd c_12 (by decide)) (fun c_12 => ?_)
      refine lv_iconst (v := 0) hx hb dX10_openPages_41 (by decide) ?_
      refine lv_goto (tgt := 51) hx hb dX10_openPages_42 (by decide) ?_
      have hP : va_P D vwCl (fz_MO q (va_up v 0 2)) H := hP.sub [0] rfl
      exact fz_iret hx hb hr rfl hlocks hS dX10_openPages_51 (va_up v 0 2) (Or.inr (Or.inl ⟨rfl, rfl, (fq_58 p1 hq_5)⟩)) hP (Nat.le_of_ble_eq_true rfl) (Nat.le_of_ble_eq_true rfl)
  · skip
    refine lv_if_ne (tgt := 14) hx hb dX10_openPages_7 (by decide) (fun c_13 => absurd (by decide) c_13) (fun c_13 => ?_)
    refine lv_iconst (v := 1) hx hb dX10_openPages_10 (by decide) ?_
    refine lv_goto (tgt := 15) hx hb dX10_openPages_11 (by decide) ?_
    refine fz_cVi (As := [.int 1, .int 1]) (rest := []) S0 (m_fails1 l A D k q f pa v 1) (fz_cwV (C := RX10) 2 hts fm_553 fm_554 fm_555 fm_556 fm_469 rfl rfl ⟨by decide, by decide, by decide +kernel⟩ ⟨Nat.le_of_ble_eq_true rfl, Nat.le_of_ble_eq_true rfl⟩) (va_recv hK hP (ci := 14) (q0 := 0) rfl rfl) (fun _ h9 => h9) (fun a9 h9 => hA a9 (Nat.le_trans hS.1 h9)) hG hS hP hK hD rfl hl.1 rfl (Nat.le_of_ble_eq_true rfl) dX10_openPages_15 ⟨Nat.le_of_ble_eq_true rfl, Nat.le_of_ble_eq_true rfl⟩ (fun r_14 u_14 H locs hw hz1 hk1 hP hS => ?_)
    have hP : va_P D vwCl (fz_WM k q f pa (va_up v 0 1)) H := hP
    have hD : va_D A (fz_WM k q f pa (va_up v 0 1)) := fz_Dsame hD rfl
    obtain rfl : r_14 = 1 := hw
    refine lv_if_ne (tgt := 41) hx hb dX10_openPages_18 (by decide) (fun c_15 => ?_) (fun c_15 => absurd c_15 (by decide))
    refine lv_iconst (v := 0) hx hb dX10_openPages_41 (by decide) ?_
    refine lv_goto (tgt := 51) hx hb dX10_openPages_42 (by decide) ?_
    have hP : va_P D vwCl (fz_MO q (va_up v 0 1)) H := hP.sub [0] rfl
    exact fz_iret hx hb hr rfl hlocks hS dX10_openPages_51 (va_up v 0 1) (Or.inl ⟨rfl, rfl, (fq_28 p0 hq_1)⟩) hP (Nat.le_of_ble_eq_true rfl) (Nat.le_of_ble_eq_true rfl)

set_option maxHeartbeats 4000000 in
set_option maxRecDepth 100000 in
theorem m_p_firstDay (l : Launch) (A : Nat → Prop) (D : va_G) (k : Nat → ClassId) (q : Nat → Nat) (f : Nat → Nat → Int32) (pa : Nat → Option Nat) (v : Nat → Int32) (p0 : Int32) (g_f_1_3 : f 1 3 = 0)  :
    Met l yX10_firstDay (fz_ws yX10_firstDay cX10_firstDay 5 (some .int)) { frames := 24, cells := 0, slots := 0, locals := 320 } (va_Pc [.ref (q 0), .int p0] (fz_PC A D (fz_tys k) (fz_WM k q f pa v))) (fz_QI D A (fun (u : Nat → Int32) => fz_MO q u) (fun (r : Int32) (u : Nat → Int32) => (r = 0 ∧ u 0 = 1 ∧ True))) 0 0 A := by
  refine fz_of (by decide +kernel) (Nat.le_of_ble_eq_true rfl) ?_
  intro p e s m below meth c hx hb hr hml hown hlocks hts hin hA hP hK hD hG hS ls hl
  have hown : s.vm.findClass RX10 = some m.cls := hown
  have S0 : CallFix p m c cX10_firstDay 5 s [.ref (q 0), .int p0].toArray (fz_ws yX10_firstDay cX10_firstDay 5 (some .int)) RX10 := ⟨hx, hb, hml, hown, hts⟩
  have hl : lv_has ls 5 [(0, .ref (q 0)), (1, .int p0)] := hl
  refine lv_aload_n hx hb dX10_firstDay_0 rfl (lv_at hl 0 rfl) ?_
  refine lv_iconst (v := 1) hx hb dX10_firstDay_1 (by decide) ?_
  refine lv_aload_n hx hb dX10_firstDay_2 rfl (lv_at hl 0 rfl) ?_
  refine lv_iload_n hx hb dX10_firstDay_3 rfl (lv_at hl 1 rfl) ?_
  refine fz_cVi (As := [.int p0]) (rest := [.int 1, .ref (q 0)]) S0 (m_isCopy l A D k q f pa v p0 g_f_1_3) (fz_cwV (C := RX10) 1 hts fm_589 fm_590 fm_591 fm_592 fm_469 rfl rfl ⟨by decide, by decide, by decide +kernel⟩ ⟨Nat.le_of_ble_eq_true rfl, Nat.le_of_ble_eq_true rfl⟩) (va_recv hK hP (ci := 14) (q0 := 0) rfl rfl) (fun _ h9 => h9) (fun a9 h9 => hA a9 (Nat.le_trans hS.1 h9)) hG hS hP hK hD rfl hl.1 rfl (Nat.le_of_ble_eq_true rfl) dX10_firstDay_4 ⟨Nat.le_of_ble_eq_true rfl, Nat.le_of_ble_eq_true rfl⟩ (fun r_1 u_1 H locs hw hz1 hk1 hP hS => ?_)
  have hP : va_P D vwCl (fz_WM k q f pa v) H := hP
  obtain rfl : r_1 = 0 := hw
  refine lv_if_ne (tgt := 14) hx hb dX10_firstDay_7 (by decide) (fun c_2 => absurd (by decide) c_2) (fun c_2 => ?_)
  refine lv_iconst (v := 1) hx hb dX10_firstDay_10 (by decide) ?_
  refine lv_goto (tgt := 15) hx hb dX10_firstDay_11 (by decide) ?_
  refine fz_cVi (As := [.int 1, .int 1]) (rest := []) S0 (m_fails1 l A D k q f pa v 1) (fz_cwV (C := RX10) 2 hts fm_553 fm_554 fm_555 fm_556 fm_469 rfl rfl ⟨by decide, by decide, by decide +kernel⟩ ⟨Nat.le_of_ble_eq_true rfl, Nat.le_of_ble_eq_true rfl⟩) (va_recv hK hP (ci := 14) (q0 := 0) rfl rfl) (fun _ h9 => h9) (fun a9 h9 => hA a9 (Nat.le_trans hS.1 h9)) hG hS hP hK hD rfl hl.1 rfl (Nat.le_of_ble_eq_true rfl) dX10_firstDay_15 ⟨Nat.le_of_ble_eq_true rfl, Nat.le_of_ble_eq_true rfl⟩ (fun r_3 u_3 H locs hw hz1 hk1 hP hS => ?_)
  have hP : va_P D vwCl (fz_WM k q f pa (va_up v 0 1)) H := hP
  have hD : va_D A (fz_WM k q f pa (va_up v 0 1)) := fz_Dsame hD rfl
  obtain rfl : r_3 = 1 := hw
  refine lv_if_eq (tgt := 23) hx hb dX10_firstDay_18 (by decide) (fun c_4 => absurd c_4 (by decide)) (fun c_4 => ?_)
  refine lv_iconst (v := 0) hx hb dX10_firstDay_21 (by decide) ?_
  have hP : va_P D vwCl (fz_MO q (va_up v 0 1)) H := hP.sub [0] rfl
  exact fz_iret hx hb hr rfl hlocks hS dX10_firstDay_22 (va_up v 0 1) ⟨rfl, rfl, trivial⟩ hP (Nat.le_of_ble_eq_true rfl) (Nat.le_of_ble_eq_true rfl)

set_option maxHeartbeats 4000000 in
set_option maxRecDepth 100000 in
theorem m_p_addContainer (l : Launch) (A : Nat → Prop) (D : va_G) (k : Nat → ClassId) (q : Nat → Nat) (f : Nat → Nat → Int32) (pa : Nat → Option Nat) (v : Nat → Int32) (p0 : Int32) (g_f_1_2 : f 1 2 = 0) (g_v_5 : v 5 = 0) (g_pb_0 : pa 0 = some (q 7))  :
    Met l yX10_addContainer (fz_ws yX10_addContainer cX10_addContainer 2 (some .int)) { frames := 48, cells := 0, slots := 0, locals := 640 } (va_Pc [.ref (q 0), .int p0] (fz_PC A D (fz_tys k) (fz_WM k q f pa v))) (fz_QI D A (fun (u : Nat → Int32) => fz_MO q u) (fun (r : Int32) (u : Nat → Int32) => (r = 0 ∧ u 0 = 1 ∧ ¬ ((1 ≤ p0 ∧ p0 ≤ 200))) ∨ (r = 0 ∧ u 0 = 0 ∧ (1 ≤ p0 ∧ p0 ≤ 200)))) 0 0 A := by
  refine fz_of (by decide +kernel) (Nat.le_of_ble_eq_true rfl) ?_
  intro p e s m below meth c hx hb hr hml hown hlocks hts hin hA hP hK hD hG hS ls hl
  have hown : s.vm.findClass RX10 = some m.cls := hown
  have S0 : CallFix p m c cX10_addContainer 2 s [.ref (q 0), .int p0].toArray (fz_ws yX10_addContainer cX10_addContainer 2 (some .int)) RX10 := ⟨hx, hb, hml, hown, hts⟩
  have hl : lv_has ls 2 [(0, .ref (q 0)), (1, .int p0)] := hl
  refine lv_aload_n hx hb dX10_addContainer_0 rfl (lv_at hl 0 rfl) ?_
  refine lv_iconst (v := 1) hx hb dX10_addContainer_1 (by decide) ?_
  refine lv_iload_n hx hb dX10_addContainer_2 rfl (lv_at hl 1 rfl) ?_
  refine fz_cSi (As := [.int p0]) (rest := [.int 1, .ref (q 0)]) S0 (m_isCapacity l A D k q f pa v p0) (fz_cwS 1 hts fm_593 fm_594 fm_595 fm_469 rfl rfl ⟨by decide, by decide, by decide +kernel⟩ ⟨Nat.le_of_ble_eq_true rfl, Nat.le_of_ble_eq_true rfl⟩) (fun _ h9 => h9) (fun a9 h9 => hA a9 (Nat.le_trans hS.1 h9)) hG hS hP hK hD rfl hl.1 rfl (Nat.le_of_ble_eq_true rfl) dX10_addContainer_3 ⟨Nat.le_of_ble_eq_true rfl, Nat.le_of_ble_eq_true rfl⟩ (fun r_1 u_1 H locs hw hz1 hk1 hP hS => ?_)
  have hP : va_P D vwCl (fz_WM k q f pa v) H := hP
  rcases (show (r_1 = 1 ∧ (1 ≤ p0 ∧ p0 ≤ 200)) ∨ (r_1 = 0 ∧ ¬ ((1 ≤ p0 ∧ p0 ≤ 200))) from hw) with ⟨rfl, hq_1⟩ | ⟨rfl, hq_1⟩
  · skip
    refine lv_if_ne (tgt := 13) hx hb dX10_addContainer_6 (by decide) (fun c_2 => ?_) (fun c_2 => absurd c_2 (by decide))
    refine lv_iconst (v := 0) hx hb dX10_addContainer_13 (by decide) ?_
    refine fz_cVi (As := [.int 1, .int 0]) (rest := []) S0 (m_fails0 l A D k q f pa v 1) (fz_cwV (C := RX10) 2 hts fm_553 fm_554 fm_555 fm_556 fm_469 rfl rfl ⟨by decide, by decide, by decide +kernel⟩ ⟨Nat.le_of_ble_eq_true rfl, Nat.le_of_ble_eq_true rfl⟩) (va_recv hK hP (ci := 14) (q0 := 0) rfl rfl) (fun _ h9 => h9) (fun a9 h9 => hA a9 (Nat.le_trans hS.1 h9)) hG hS hP hK hD rfl hl.1 rfl (Nat.le_of_ble_eq_true rfl) dX10_addContainer_14 ⟨Nat.le_of_ble_eq_true rfl, Nat.le_of_ble_eq_true rfl⟩ (fun r_3 u_3 H locs hw hz1 hk1 hP hS => ?_)
    have hP : va_P D vwCl (fz_WM k q f pa (va_up v 0 0)) H := hP
    have hD : va_D A (fz_WM k q f pa (va_up v 0 0)) := fz_Dsame hD rfl
    obtain rfl : r_3 = 0 := hw
    refine lv_if_ne (tgt := 32) hx hb dX10_addContainer_17 (by decide) (fun c_4 => absurd (by decide) c_4) (fun c_4 => ?_)
    refine lv_aload_n hx hb dX10_addContainer_20 rfl (lv_at hl 0 rfl) ?_
    refine lv_iconst (v := 2) hx hb dX10_addContainer_21 (by decide) ?_
    refine lv_aload_n hx hb dX10_addContainer_22 rfl (lv_at hl 0 rfl) ?_
    refine fz_cVi (As := []) (rest := [.int 2, .ref (q 0)]) S0 (m_isFull l A D k q f pa (va_up v 0 0) g_f_1_2) (fz_cwV (C := RX10) 0 hts fm_596 fm_597 fm_598 fm_599 fm_469 rfl rfl ⟨by decide, by decide, by decide +kernel⟩ ⟨Nat.le_of_ble_eq_true rfl, Nat.le_of_ble_eq_true rfl⟩) (va_recv hK hP (ci := 14) (q0 := 0) rfl rfl) (fun _ h9 => h9) (fun a9 h9 => hA a9 (Nat.le_trans hS.1 h9)) hG hS hP hK hD rfl hl.1 rfl (Nat.le_of_ble_eq_true rfl) dX10_addContainer_23 ⟨Nat.le_of_ble_eq_true rfl, Nat.le_of_ble_eq_true rfl⟩ (fun r_5 u_5 H locs hw hz1 hk1 hP hS => ?_)
    have hP : va_P D vwCl (fz_WM k q f pa (va_up v 0 0)) H := hP
    obtain rfl : r_5 = 0 := hw
    refine fz_cVi (As := [.int 2, .int 0]) (rest := []) S0 (m_fails0 l A D k q f pa (va_up v 0 0) 2) (fz_cwV (C := RX10) 2 hts fm_553 fm_554 fm_555 fm_556 fm_469 rfl rfl ⟨by decide, by decide, by decide +kernel⟩ ⟨Nat.le_of_ble_eq_true rfl, Nat.le_of_ble_eq_true rfl⟩) (va_recv hK hP (ci := 14) (q0 := 0) rfl rfl) (fun _ h9 => h9) (fun a9 h9 => hA a9 (Nat.le_trans hS.1 h9)) hG hS hP hK hD rfl hl.1 rfl (Nat.le_of_ble_eq_true rfl) dX10_addContainer_26 ⟨Nat.le_of_ble_eq_true rfl, Nat.le_of_ble_eq_true rfl⟩ (fun r_6 u_6 H locs hw hz1 hk1 hP hS => ?_)
    have hP : va_P D vwCl (fz_WM k q f pa (va_up v 0 0)) H := hP
    have hD : va_D A (fz_WM k q f pa (va_up v 0 0)) := fz_Dsame hD rfl
    obtain rfl : r_6 = 0 := hw
    refine lv_if_eq (tgt := 34) hx hb dX10_addContainer_29 (by decide) (fun c_7 => ?_) (fun c_7 => absurd (by decide) c_7)
    refine lv_aload_n hx hb dX10_addContainer_34 rfl (lv_at hl 0 rfl) ?_
    refine fz_cVv (As := []) (rest := []) S0 (m_remember l A D k q f pa (va_up v 0 0) g_v_5 g_pb_0) (fz_cwV (C := RX10) 0 hts fm_561 fm_562 fm_563 fm_564 fm_469 rfl rfl ⟨by decide, by decide, by decide +kernel⟩ ⟨Nat.le_of_ble_eq_true rfl, Nat.le_of_ble_eq_true rfl⟩) (va_recv hK hP (ci := 14) (q0 := 0) rfl rfl) (fun _ h9 => h9) (fun a9 h9 => hA a9 (Nat.le_trans hS.1 h9)) hG hS hP hK hD rfl hl.1 rfl (Nat.le_of_ble_eq_true rfl) dX10_addContainer_35 ⟨Nat.le_of_ble_eq_true rfl, Nat.le_of_ble_eq_true rfl⟩ (fun u_8 H locs hw hz1 hk1 hP hS => ?_)
    have hP : va_P D vwCl (fz_WM k q (va_up f 7 u_8) pa (va_up (va_up v 0 0) 5 1)) H := hP
    have hD : va_D A (fz_WM k q (va_up f 7 u_8) pa (va_up (va_up v 0 0) 5 1)) := fz_Dsame hD rfl
    refine lv_aload_n hx hb dX10_addContainer_38 rfl (lv_at hl 0 rfl) ?_
    refine lv_iload_n hx hb dX10_addContainer_39 rfl (lv_at hl 1 rfl) ?_
    refine fz_cVi (As := [.int p0]) (rest := []) S0 (m_makeContainer l A D k q (va_up f 7 u_8) pa (va_up (va_up v 0 0) 5 1) p0 g_f_1_2) (fz_cwV (C := RX10) 1 hts fm_600 fm_601 fm_602 fm_603 fm_469 rfl rfl ⟨by decide, by decide, by decide +kernel⟩ ⟨Nat.le_of_ble_eq_true rfl, Nat.le_of_ble_eq_true rfl⟩) (va_recv hK hP (ci := 14) (q0 := 0) rfl rfl) (fun _ h9 => h9) (fun a9 h9 => hA a9 (Nat.le_trans hS.1 h9)) hG hS hP hK hD rfl hl.1 rfl (Nat.le_of_ble_eq_true rfl) dX10_addContainer_40 ⟨Nat.le_of_ble_eq_true rfl, Nat.le_of_ble_eq_true rfl⟩ (fun r_9 u_9 H locs hw hz1 hk1 hP hS => ?_)
    have hP : va_P D vwCl (fz_WM k q (va_up (va_up f 7 u_8) 1 (upd (upd (upd (f 1) 1247 1) 1248 p0) 2 1)) pa (va_up (va_up v 0 0) 5 1)) H := hP
    have hD : va_D A (fz_WM k q (va_up (va_up f 7 u_8) 1 (upd (upd (upd (f 1) 1247 1) 1248 p0) 2 1)) pa (va_up (va_up v 0 0) 5 1)) := fz_Dsame hD rfl
    obtain rfl : r_9 = 0 := hw
    have hP : va_P D vwCl (fz_MO q (va_up (va_up v 0 0) 5 1)) H := hP.sub [0] rfl
    exact fz_iret hx hb hr rfl hlocks hS dX10_addContainer_43 (va_up (va_up v 0 0) 5 1) (Or.inr ⟨rfl, rfl, (fq_94 p0 hq_1)⟩) hP (Nat.le_of_ble_eq_true rfl) (Nat.le_of_ble_eq_true rfl)
  · skip
    refine lv_if_ne (tgt := 13) hx hb dX10_addContainer_6 (by decide) (fun c_10 => absurd (by decide) c_10) (fun c_10 => ?_)
    refine lv_iconst (v := 1) hx hb dX10_addContainer_9 (by decide) ?_
    refine lv_goto (tgt := 14) hx hb dX10_addContainer_10 (by decide) ?_
    refine fz_cVi (As := [.int 1, .int 1]) (rest := []) S0 (m_fails1 l A D k q f pa v 1) (fz_cwV (C := RX10) 2 hts fm_553 fm_554 fm_555 fm_556 fm_469 rfl rfl ⟨by decide, by decide, by decide +kernel⟩ ⟨Nat.le_of_ble_eq_true rfl, Nat.le_of_ble_eq_true rfl⟩) (va_recv hK hP (ci := 14) (q0 := 0) rfl rfl) (fun _ h9 => h9) (fun a9 h9 => hA a9 (Nat.le_trans hS.1 h9)) hG hS hP hK hD rfl hl.1 rfl (Nat.le_of_ble_eq_true rfl) dX10_addContainer_14 ⟨Nat.le_of_ble_eq_true rfl, Nat.le_of_ble_eq_true rfl⟩ (fun r_11 u_11 H locs hw hz1 hk1 hP hS => ?_)
    have hP : va_P D vwCl (fz_WM k q f pa (va_up v 0 1)) H := hP
    have hD : va_D A (fz_WM k q f pa (va_up v 0 1)) := fz_Dsame hD rfl
    obtain rfl : r_11 = 1 := hw
    refine lv_if_ne (tgt := 32) hx hb dX10_addContainer_17 (by decide) (fun c_12 => ?_) (fun c_12 => absurd c_12 (by decide))
    refine lv_iconst (v := 0) hx hb dX10_addContainer_32 (by decide) ?_
    have hP : va_P D vwCl (fz_MO q (va_up v 0 1)) H := hP.sub [0] rfl
    exact fz_iret hx hb hr rfl hlocks hS dX10_addContainer_33 (va_up v 0 1) (Or.inl ⟨rfl, rfl, (fq_93 p0 hq_1)⟩) hP (Nat.le_of_ble_eq_true rfl) (Nat.le_of_ble_eq_true rfl)

set_option maxHeartbeats 4000000 in
set_option maxRecDepth 100000 in
theorem m_p_put (l : Launch) (A : Nat → Prop) (D : va_G) (k : Nat → ClassId) (q : Nat → Nat) (f : Nat → Nat → Int32) (pa : Nat → Option Nat) (v : Nat → Int32) (p0 p1 : Int32) (g_f_1_0 : f 1 0 = 1) (g_f_1_7 : f 1 7 = 1) (g_f_1_2 : f 1 2 = 0)  :
    Met l yX10_put (fz_ws yX10_put cX10_put 4 (some .int)) { frames := 24, cells := 0, slots := 0, locals := 320 } (va_Pc [.ref (q 0), .int p0, .int p1] (fz_PC A D (fz_tys k) (fz_WM k q f pa v))) (fz_QI D A (fun (u : Nat → Int32) => fz_MO q u) (fun (r : Int32) (u : Nat → Int32) => (r = 0 ∧ u 0 = 1 ∧ True))) 0 0 A := by
  refine fz_of (by decide +kernel) (Nat.le_of_ble_eq_true rfl) ?_
  intro p e s m below meth c hx hb hr hml hown hlocks hts hin hA hP hK hD hG hS ls hl
  have hown : s.vm.findClass RX10 = some m.cls := hown
  have S0 : CallFix p m c cX10_put 4 s [.ref (q 0), .int p0, .int p1].toArray (fz_ws yX10_put cX10_put 4 (some .int)) RX10 := ⟨hx, hb, hml, hown, hts⟩
  have hl : lv_has ls 4 [(0, .ref (q 0)), (1, .int p0), (2, .int p1)] := hl
  refine lv_aload_n hx hb dX10_put_0 rfl (lv_at hl 0 rfl) ?_
  refine lv_iconst (v := 1) hx hb dX10_put_1 (by decide) ?_
  refine lv_aload_n hx hb dX10_put_2 rfl (lv_at hl 0 rfl) ?_
  refine lv_iload_n hx hb dX10_put_3 rfl (lv_at hl 1 rfl) ?_
  refine fz_cVi (As := [.int p0]) (rest := [.int 1, .ref (q 0)]) S0 (m_isNode l A D k q f pa v p0 g_f_1_0 g_f_1_7) (fz_cwV (C := RX10) 1 hts fm_481 fm_482 fm_483 fm_484 fm_469 rfl rfl ⟨by decide, by decide, by decide +kernel⟩ ⟨Nat.le_of_ble_eq_true rfl, Nat.le_of_ble_eq_true rfl⟩) (va_recv hK hP (ci := 14) (q0 := 0) rfl rfl) (fun _ h9 => h9) (fun a9 h9 => hA a9 (Nat.le_trans hS.1 h9)) hG hS hP hK hD rfl hl.1 rfl (Nat.le_of_ble_eq_true rfl) dX10_put_4 ⟨Nat.le_of_ble_eq_true rfl, Nat.le_of_ble_eq_true rfl⟩ (fun r_1 u_1 H locs hw hz1 hk1 hP hS => ?_)
  have hP : va_P D vwCl (fz_WM k q f pa v) H := hP
  rcases (show (r_1 = 1 ∧ p0 = 0) ∨ (r_1 = 0 ∧ ¬ (p0 = 0)) from hw) with ⟨rfl, hq_1⟩ | ⟨rfl, hq_1⟩
  · skip
    obtain rfl : p0 = 0 := (fq_27 p0 hq_1)
    refine lv_if_eq (tgt := 18) hx hb dX10_put_7 (by decide) (fun c_2 => absurd c_2 (by decide)) (fun c_2 => ?_)
    refine lv_aload_n hx hb dX10_put_10 rfl (lv_at hl 0 rfl) ?_
    refine lv_iload_n hx hb dX10_put_11 rfl (lv_at hl 2 rfl) ?_
    refine fz_cVi (As := [.int p1]) (rest := [.int 1, .ref (q 0)]) S0 (m_isContainer l A D k q f pa v p1 g_f_1_2) (fz_cwV (C := RX10) 1 hts fm_604 fm_605 fm_606 fm_607 fm_469 rfl rfl ⟨by decide, by decide, by decide +kernel⟩ ⟨Nat.le_of_ble_eq_true rfl, Nat.le_of_ble_eq_true rfl⟩) (va_recv hK hP (ci := 14) (q0 := 0) rfl rfl) (fun _ h9 => h9) (fun a9 h9 => hA a9 (Nat.le_trans hS.1 h9)) hG hS hP hK hD rfl hl.1 rfl (Nat.le_of_ble_eq_true rfl) dX10_put_12 ⟨Nat.le_of_ble_eq_true rfl, Nat.le_of_ble_eq_true rfl⟩ (fun r_3 u_3 H locs hw hz1 hk1 hP hS => ?_)
    have hP : va_P D vwCl (fz_WM k q f pa v) H := hP
    obtain rfl : r_3 = 0 := hw
    refine lv_if_ne (tgt := 22) hx hb dX10_put_15 (by decide) (fun c_4 => absurd (by decide) c_4) (fun c_4 => ?_)
    refine lv_iconst (v := 1) hx hb dX10_put_18 (by decide) ?_
    refine lv_goto (tgt := 23) hx hb dX10_put_19 (by decide) ?_
    refine fz_cVi (As := [.int 1, .int 1]) (rest := []) S0 (m_fails1 l A D k q f pa v 1) (fz_cwV (C := RX10) 2 hts fm_553 fm_554 fm_555 fm_556 fm_469 rfl rfl ⟨by decide, by decide, by decide +kernel⟩ ⟨Nat.le_of_ble_eq_true rfl, Nat.le_of_ble_eq_true rfl⟩) (va_recv hK hP (ci := 14) (q0 := 0) rfl rfl) (fun _ h9 => h9) (fun a9 h9 => hA a9 (Nat.le_trans hS.1 h9)) hG hS hP hK hD rfl hl.1 rfl (Nat.le_of_ble_eq_true rfl) dX10_put_23 ⟨Nat.le_of_ble_eq_true rfl, Nat.le_of_ble_eq_true rfl⟩ (fun r_5 u_5 H locs hw hz1 hk1 hP hS => ?_)
    have hP : va_P D vwCl (fz_WM k q f pa (va_up v 0 1)) H := hP
    have hD : va_D A (fz_WM k q f pa (va_up v 0 1)) := fz_Dsame hD rfl
    obtain rfl : r_5 = 1 := hw
    refine lv_if_ne (tgt := 50) hx hb dX10_put_26 (by decide) (fun c_6 => ?_) (fun c_6 => absurd c_6 (by decide))
    refine lv_iconst (v := 0) hx hb dX10_put_50 (by decide) ?_
    have hP : va_P D vwCl (fz_MO q (va_up v 0 1)) H := hP.sub [0] rfl
    exact fz_iret hx hb hr rfl hlocks hS dX10_put_51 (va_up v 0 1) ⟨rfl, rfl, trivial⟩ hP (Nat.le_of_ble_eq_true rfl) (Nat.le_of_ble_eq_true rfl)
  · skip
    refine lv_if_eq (tgt := 18) hx hb dX10_put_7 (by decide) (fun c_7 => ?_) (fun c_7 => absurd (by decide) c_7)
    refine lv_iconst (v := 1) hx hb dX10_put_18 (by decide) ?_
    refine lv_goto (tgt := 23) hx hb dX10_put_19 (by decide) ?_
    refine fz_cVi (As := [.int 1, .int 1]) (rest := []) S0 (m_fails1 l A D k q f pa v 1) (fz_cwV (C := RX10) 2 hts fm_553 fm_554 fm_555 fm_556 fm_469 rfl rfl ⟨by decide, by decide, by decide +kernel⟩ ⟨Nat.le_of_ble_eq_true rfl, Nat.le_of_ble_eq_true rfl⟩) (va_recv hK hP (ci := 14) (q0 := 0) rfl rfl) (fun _ h9 => h9) (fun a9 h9 => hA a9 (Nat.le_trans hS.1 h9)) hG hS hP hK hD rfl hl.1 rfl (Nat.le_of_ble_eq_true rfl) dX10_put_23 ⟨Nat.le_of_ble_eq_true rfl, Nat.le_of_ble_eq_true rfl⟩ (fun r_8 u_8 H locs hw hz1 hk1 hP hS => ?_)
    have hP : va_P D vwCl (fz_WM k q f pa (va_up v 0 1)) H := hP
    have hD : va_D A (fz_WM k q f pa (va_up v 0 1)) := fz_Dsame hD rfl
    obtain rfl : r_8 = 1 := hw
    refine lv_if_ne (tgt := 50) hx hb dX10_put_26 (by decide) (fun c_9 => ?_) (fun c_9 => absurd c_9 (by decide))
    refine lv_iconst (v := 0) hx hb dX10_put_50 (by decide) ?_
    have hP : va_P D vwCl (fz_MO q (va_up v 0 1)) H := hP.sub [0] rfl
    exact fz_iret hx hb hr rfl hlocks hS dX10_put_51 (va_up v 0 1) ⟨rfl, rfl, trivial⟩ hP (Nat.le_of_ble_eq_true rfl) (Nat.le_of_ble_eq_true rfl)

set_option maxHeartbeats 4000000 in
set_option maxRecDepth 100000 in
theorem m_p_takeOut (l : Launch) (A : Nat → Prop) (D : va_G) (k : Nat → ClassId) (q : Nat → Nat) (f : Nat → Nat → Int32) (pa : Nat → Option Nat) (v : Nat → Int32) (p0 : Int32) (g_f_1_0 : f 1 0 = 1) (g_f_1_7 : f 1 7 = 1) (g_f_1_15 : f 1 15 = (-1))  :
    Met l yX10_takeOut (fz_ws yX10_takeOut cX10_takeOut 3 (some .int)) { frames := 24, cells := 0, slots := 0, locals := 320 } (va_Pc [.ref (q 0), .int p0] (fz_PC A D (fz_tys k) (fz_WM k q f pa v))) (fz_QI D A (fun (u : Nat → Int32) => fz_MO q u) (fun (r : Int32) (u : Nat → Int32) => (r = 0 ∧ u 0 = 1 ∧ ¬ (p0 = 0)) ∨ (r = 0 ∧ u 0 = 2 ∧ p0 = 0))) 0 0 A := by
  refine fz_of (by decide +kernel) (Nat.le_of_ble_eq_true rfl) ?_
  intro p e s m below meth c hx hb hr hml hown hlocks hts hin hA hP hK hD hG hS ls hl
  have hown : s.vm.findClass RX10 = some m.cls := hown
  have S0 : CallFix p m c cX10_takeOut 3 s [.ref (q 0), .int p0].toArray (fz_ws yX10_takeOut cX10_takeOut 3 (some .int)) RX10 := ⟨hx, hb, hml, hown, hts⟩
  have hl : lv_has ls 3 [(0, .ref (q 0)), (1, .int p0)] := hl
  refine lv_aload_n hx hb dX10_takeOut_0 rfl (lv_at hl 0 rfl) ?_
  refine lv_iconst (v := 1) hx hb dX10_takeOut_1 (by decide) ?_
  refine lv_aload_n hx hb dX10_takeOut_2 rfl (lv_at hl 0 rfl) ?_
  refine lv_iload_n hx hb dX10_takeOut_3 rfl (lv_at hl 1 rfl) ?_
  refine fz_cVi (As := [.int p0]) (rest := [.int 1, .ref (q 0)]) S0 (m_isNode l A D k q f pa v p0 g_f_1_0 g_f_1_7) (fz_cwV (C := RX10) 1 hts fm_481 fm_482 fm_483 fm_484 fm_469 rfl rfl ⟨by decide, by decide, by decide +kernel⟩ ⟨Nat.le_of_ble_eq_true rfl, Nat.le_of_ble_eq_true rfl⟩) (va_recv hK hP (ci := 14) (q0 := 0) rfl rfl) (fun _ h9 => h9) (fun a9 h9 => hA a9 (Nat.le_trans hS.1 h9)) hG hS hP hK hD rfl hl.1 rfl (Nat.le_of_ble_eq_true rfl) dX10_takeOut_4 ⟨Nat.le_of_ble_eq_true rfl, Nat.le_of_ble_eq_true rfl⟩ (fun r_1 u_1 H locs hw hz1 hk1 hP hS => ?_)
  have hP : va_P D vwCl (fz_WM k q f pa v) H := hP
  rcases (show (r_1 = 1 ∧ p0 = 0) ∨ (r_1 = 0 ∧ ¬ (p0 = 0)) from hw) with ⟨rfl, hq_1⟩ | ⟨rfl, hq_1⟩
  · skip
    obtain rfl : p0 = 0 := (fq_27 p0 hq_1)
    refine lv_if_ne (tgt := 14) hx hb dX10_takeOut_7 (by decide) (fun c_2 => ?_) (fun c_2 => absurd c_2 (by decide))
    refine lv_iconst (v := 0) hx hb dX10_takeOut_14 (by decide) ?_
    refine fz_cVi (As := [.int 1, .int 0]) (rest := []) S0 (m_fails0 l A D k q f pa v 1) (fz_cwV (C := RX10) 2 hts fm_553 fm_554 fm_555 fm_556 fm_469 rfl rfl ⟨by decide, by decide, by decide +kernel⟩ ⟨Nat.le_of_ble_eq_true rfl, Nat.le_of_ble_eq_true rfl⟩) (va_recv hK hP (ci := 14) (q0 := 0) rfl rfl) (fun _ h9 => h9) (fun a9 h9 => hA a9 (Nat.le_trans hS.1 h9)) hG hS hP hK hD rfl hl.1 rfl (Nat.le_of_ble_eq_true rfl) dX10_takeOut_15 ⟨Nat.le_of_ble_eq_true rfl, Nat.le_of_ble_eq_true rfl⟩ (fun r_3 u_3 H locs hw hz1 hk1 hP hS => ?_)
    have hP : va_P D vwCl (fz_WM k q f pa (va_up v 0 0)) H := hP
    have hD : va_D A (fz_WM k q f pa (va_up v 0 0)) := fz_Dsame hD rfl
    obtain rfl : r_3 = 0 := hw
    refine lv_if_ne (tgt := 44) hx hb dX10_takeOut_18 (by decide) (fun c_4 => absurd (by decide) c_4) (fun c_4 => ?_)
    refine lv_aload_n hx hb dX10_takeOut_21 rfl (lv_at hl 0 rfl) ?_
    refine lv_iconst (v := 2) hx hb dX10_takeOut_22 (by decide) ?_
    refine lv_aload_n hx hb dX10_takeOut_23 rfl (lv_at hl 0 rfl) ?_
    refine lv_iload_n hx hb dX10_takeOut_24 rfl (lv_at hl 1 rfl) ?_
    refine lv_bipush (v := 8) hx hb dX10_takeOut_25 (by decide) ?_
    refine fz_cVi (As := [.int 0, .int 8]) (rest := [.int 2, .ref (q 0)]) S0 (m_of8 l A D k q f pa (va_up v 0 0) g_f_1_15) (fz_cwV (C := RX10) 2 hts fm_477 fm_478 fm_479 fm_480 fm_469 rfl rfl ⟨by decide, by decide, by decide +kernel⟩ ⟨Nat.le_of_ble_eq_true rfl, Nat.le_of_ble_eq_true rfl⟩) (va_recv hK hP (ci := 14) (q0 := 0) rfl rfl) (fun _ h9 => h9) (fun a9 h9 => hA a9 (Nat.le_trans hS.1 h9)) hG hS hP hK hD rfl hl.1 rfl (Nat.le_of_ble_eq_true rfl) dX10_takeOut_27 ⟨Nat.le_of_ble_eq_true rfl, Nat.le_of_ble_eq_true rfl⟩ (fun r_5 u_5 H locs hw hz1 hk1 hP hS => ?_)
    have hP : va_P D vwCl (fz_WM k q f pa (va_up v 0 0)) H := hP
    obtain rfl : r_5 = (-1) := hw
    refine lv_if_ge (tgt := 37) hx hb dX10_takeOut_30 (by decide) (fun c_6 => absurd c_6 (by decide)) (fun c_6 => ?_)
    refine lv_iconst (v := 1) hx hb dX10_takeOut_33 (by decide) ?_
    refine lv_goto (tgt := 38) hx hb dX10_takeOut_34 (by decide) ?_
    refine fz_cVi (As := [.int 2, .int 1]) (rest := []) S0 (m_fails1 l A D k q f pa (va_up v 0 0) 2) (fz_cwV (C := RX10) 2 hts fm_553 fm_554 fm_555 fm_556 fm_469 rfl rfl ⟨by decide, by decide, by decide +kernel⟩ ⟨Nat.le_of_ble_eq_true rfl, Nat.le_of_ble_eq_true rfl⟩) (va_recv hK hP (ci := 14) (q0 := 0) rfl rfl) (fun _ h9 => h9) (fun a9 h9 => hA a9 (Nat.le_trans hS.1 h9)) hG hS hP hK hD rfl hl.1 rfl (Nat.le_of_ble_eq_true rfl) dX10_takeOut_38 ⟨Nat.le_of_ble_eq_true rfl, Nat.le_of_ble_eq_true rfl⟩ (fun r_7 u_7 H locs hw hz1 hk1 hP hS => ?_)
    have hP : va_P D vwCl (fz_WM k q f pa (va_up v 0 2)) H := hP
    have hD : va_D A (fz_WM k q f pa (va_up v 0 2)) := fz_Dsame hD rfl
    obtain rfl : r_7 = 1 := hw
    refine lv_if_eq (tgt := 46) hx hb dX10_takeOut_41 (by decide) (fun c_8 => absurd c_8 (by decide)) (fun c_8 => ?_)
    refine lv_iconst (v := 0) hx hb dX10_takeOut_44 (by decide) ?_
    have hP : va_P D vwCl (fz_MO q (va_up v 0 2)) H := hP.sub [0] rfl
    exact fz_iret hx hb hr rfl hlocks hS dX10_takeOut_45 (va_up v 0 2) (Or.inr ⟨rfl, rfl, (fq_3 )⟩) hP (Nat.le_of_ble_eq_true rfl) (Nat.le_of_ble_eq_true rfl)
  · skip
    refine lv_if_ne (tgt := 14) hx hb dX10_takeOut_7 (by decide) (fun c_9 => absurd (by decide) c_9) (fun c_9 => ?_)
    refine lv_iconst (v := 1) hx hb dX10_takeOut_10 (by decide) ?_
    refine lv_goto (tgt := 15) hx hb dX10_takeOut_11 (by decide) ?_
    refine fz_cVi (As := [.int 1, .int 1]) (rest := []) S0 (m_fails1 l A D k q f pa v 1) (fz_cwV (C := RX10) 2 hts fm_553 fm_554 fm_555 fm_556 fm_469 rfl rfl ⟨by decide, by decide, by decide +kernel⟩ ⟨Nat.le_of_ble_eq_true rfl, Nat.le_of_ble_eq_true rfl⟩) (va_recv hK hP (ci := 14) (q0 := 0) rfl rfl) (fun _ h9 => h9) (fun a9 h9 => hA a9 (Nat.le_trans hS.1 h9)) hG hS hP hK hD rfl hl.1 rfl (Nat.le_of_ble_eq_true rfl) dX10_takeOut_15 ⟨Nat.le_of_ble_eq_true rfl, Nat.le_of_ble_eq_true rfl⟩ (fun r_10 u_10 H locs hw hz1 hk1 hP hS => ?_)
    have hP : va_P D vwCl (fz_WM k q f pa (va_up v 0 1)) H := hP
    have hD : va_D A (fz_WM k q f pa (va_up v 0 1)) := fz_Dsame hD rfl
    obtain rfl : r_10 = 1 := hw
    refine lv_if_ne (tgt := 44) hx hb dX10_takeOut_18 (by decide) (fun c_11 => ?_) (fun c_11 => absurd c_11 (by decide))
    refine lv_iconst (v := 0) hx hb dX10_takeOut_44 (by decide) ?_
    have hP : va_P D vwCl (fz_MO q (va_up v 0 1)) H := hP.sub [0] rfl
    exact fz_iret hx hb hr rfl hlocks hS dX10_takeOut_45 (va_up v 0 1) (Or.inl ⟨rfl, rfl, (fq_28 p0 hq_1)⟩) hP (Nat.le_of_ble_eq_true rfl) (Nat.le_of_ble_eq_true rfl)

set_option maxHeartbeats 4000000 in
set_option maxRecDepth 100000 in
theorem m_p_split (l : Launch) (A : Nat → Prop) (D : va_G) (k : Nat → ClassId) (q : Nat → Nat) (f : Nat → Nat → Int32) (pa : Nat → Option Nat) (v : Nat → Int32) (p0 p1 p2 : Int32) (g_f_1_2 : f 1 2 = 0)  :
    Met l yX10_split (fz_ws yX10_split cX10_split 6 (some .int)) { frames := 24, cells := 0, slots := 0, locals := 320 } (va_Pc [.ref (q 0), .int p0, .int p1, .int p2] (fz_PC A D (fz_tys k) (fz_WM k q f pa v))) (fz_QI D A (fun (u : Nat → Int32) => fz_MO q u) (fun (r : Int32) (u : Nat → Int32) => (r = 0 ∧ u 0 = 1 ∧ True))) 0 0 A := by
  refine fz_of (by decide +kernel) (Nat.le_of_ble_eq_true rfl) ?_
  intro p e s m below meth c hx hb hr hml hown hlocks hts hin hA hP hK hD hG hS ls hl
  have hown : s.vm.findClass RX10 = some m.cls := hown
  have S0 : CallFix p m c cX10_split 6 s [.ref (q 0), .int p0, .int p1, .int p2].toArray (fz_ws yX10_split cX10_split 6 (some .int)) RX10 := ⟨hx, hb, hml, hown, hts⟩
  have hl : lv_has ls 6 [(0, .ref (q 0)), (1, .int p0), (2, .int p1), (3, .int p2)] := hl
  refine lv_aload_n hx hb dX10_split_0 rfl (lv_at hl 0 rfl) ?_
  refine lv_iload_n hx hb dX10_split_1 rfl (lv_at hl 1 rfl) ?_
  refine fz_cVi (As := [.int p0]) (rest := []) S0 (m_isContainer l A D k q f pa v p0 g_f_1_2) (fz_cwV (C := RX10) 1 hts fm_604 fm_605 fm_606 fm_607 fm_469 rfl rfl ⟨by decide, by decide, by decide +kernel⟩ ⟨Nat.le_of_ble_eq_true rfl, Nat.le_of_ble_eq_true rfl⟩) (va_recv hK hP (ci := 14) (q0 := 0) rfl rfl) (fun _ h9 => h9) (fun a9 h9 => hA a9 (Nat.le_trans hS.1 h9)) hG hS hP hK hD rfl hl.1 rfl (Nat.le_of_ble_eq_true rfl) dX10_split_2 ⟨Nat.le_of_ble_eq_true rfl, Nat.le_of_ble_eq_true rfl⟩ (fun r_1 u_1 H locs hw hz1 hk1 hP hS => ?_)
  have hP : va_P D vwCl (fz_WM k q f pa v) H := hP
  obtain rfl : r_1 = 0 := hw
  refine lv_if_eq (tgt := 28) hx hb dX10_split_5 (by decide) (fun c_2 => ?_) (fun c_2 => absurd (by decide) c_2)
  refine lv_iconst (v := 0) hx hb dX10_split_28 (by decide) ?_
  refine lv_istore (lv' := [(4, .int 0), (0, .ref (q 0)), (1, .int p0), (2, .int p1), (3, .int p2)]) hx hb dX10_split_29 hl (by decide) rfl (fun ls hl => ?_)
  refine lv_aload_n hx hb dX10_split_31 rfl (lv_at hl 1 rfl) ?_
  refine lv_iconst (v := 1) hx hb dX10_split_32 (by decide) ?_
  refine lv_iload hx hb dX10_split_33 (lv_at hl 0 rfl) ?_
  refine lv_if_ne (tgt := 42) hx hb dX10_split_35 (by decide) (fun c_3 => absurd (by decide) c_3) (fun c_3 => ?_)
  refine lv_iconst (v := 1) hx hb dX10_split_38 (by decide) ?_
  refine lv_goto (tgt := 43) hx hb dX10_split_39 (by decide) ?_
  refine fz_cVi (As := [.int 1, .int 1]) (rest := []) S0 (m_fails1 l A D k q f pa v 1) (fz_cwV (C := RX10) 2 hts fm_553 fm_554 fm_555 fm_556 fm_469 rfl rfl ⟨by decide, by decide, by decide +kernel⟩ ⟨Nat.le_of_ble_eq_true rfl, Nat.le_of_ble_eq_true rfl⟩) (va_recv hK hP (ci := 14) (q0 := 0) rfl rfl) (fun _ h9 => h9) (fun a9 h9 => hA a9 (Nat.le_trans hS.1 h9)) hG hS hP hK hD rfl hl.1 rfl (Nat.le_of_ble_eq_true rfl) dX10_split_43 ⟨Nat.le_of_ble_eq_true rfl, Nat.le_of_ble_eq_true rfl⟩ (fun r_4 u_4 H locs hw hz1 hk1 hP hS => ?_)
  have hP : va_P D vwCl (fz_WM k q f pa (va_up v 0 1)) H := hP
  have hD : va_D A (fz_WM k q f pa (va_up v 0 1)) := fz_Dsame hD rfl
  obtain rfl : r_4 = 1 := hw
  refine lv_if_ne (tgt := 99) hx hb dX10_split_46 (by decide) (fun c_5 => ?_) (fun c_5 => absurd c_5 (by decide))
  refine lv_iconst (v := 0) hx hb dX10_split_99 (by decide) ?_
  have hP : va_P D vwCl (fz_MO q (va_up v 0 1)) H := hP.sub [0] rfl
  exact fz_iret hx hb hr rfl hlocks hS dX10_split_100 (va_up v 0 1) ⟨rfl, rfl, trivial⟩ hP (Nat.le_of_ble_eq_true rfl) (Nat.le_of_ble_eq_true rfl)

set_option maxHeartbeats 4000000 in
set_option maxRecDepth 100000 in
theorem m_p_merge (l : Launch) (A : Nat → Prop) (D : va_G) (k : Nat → ClassId) (q : Nat → Nat) (f : Nat → Nat → Int32) (pa : Nat → Option Nat) (v : Nat → Int32) (p0 p1 : Int32) (g_f_1_2 : f 1 2 = 0)  :
    Met l yX10_merge (fz_ws yX10_merge cX10_merge 4 (some .int)) { frames := 24, cells := 0, slots := 0, locals := 320 } (va_Pc [.ref (q 0), .int p0, .int p1] (fz_PC A D (fz_tys k) (fz_WM k q f pa v))) (fz_QI D A (fun (u : Nat → Int32) => fz_MO q u) (fun (r : Int32) (u : Nat → Int32) => (r = 0 ∧ u 0 = 1 ∧ True))) 0 0 A := by
  refine fz_of (by decide +kernel) (Nat.le_of_ble_eq_true rfl) ?_
  intro p e s m below meth c hx hb hr hml hown hlocks hts hin hA hP hK hD hG hS ls hl
  have hown : s.vm.findClass RX10 = some m.cls := hown
  have S0 : CallFix p m c cX10_merge 4 s [.ref (q 0), .int p0, .int p1].toArray (fz_ws yX10_merge cX10_merge 4 (some .int)) RX10 := ⟨hx, hb, hml, hown, hts⟩
  have hl : lv_has ls 4 [(0, .ref (q 0)), (1, .int p0), (2, .int p1)] := hl
  refine lv_aload_n hx hb dX10_merge_0 rfl (lv_at hl 0 rfl) ?_
  refine lv_iconst (v := 1) hx hb dX10_merge_1 (by decide) ?_
  refine lv_aload_n hx hb dX10_merge_2 rfl (lv_at hl 0 rfl) ?_
  refine lv_iload_n hx hb dX10_merge_3 rfl (lv_at hl 1 rfl) ?_
  refine fz_cVi (As := [.int p0]) (rest := [.int 1, .ref (q 0)]) S0 (m_isContainer l A D k q f pa v p0 g_f_1_2) (fz_cwV (C := RX10) 1 hts fm_604 fm_605 fm_606 fm_607 fm_469 rfl rfl ⟨by decide, by decide, by decide +kernel⟩ ⟨Nat.le_of_ble_eq_true rfl, Nat.le_of_ble_eq_true rfl⟩) (va_recv hK hP (ci := 14) (q0 := 0) rfl rfl) (fun _ h9 => h9) (fun a9 h9 => hA a9 (Nat.le_trans hS.1 h9)) hG hS hP hK hD rfl hl.1 rfl (Nat.le_of_ble_eq_true rfl) dX10_merge_4 ⟨Nat.le_of_ble_eq_true rfl, Nat.le_of_ble_eq_true rfl⟩ (fun r_1 u_1 H locs hw hz1 hk1 hP hS => ?_)
  have hP : va_P D vwCl (fz_WM k q f pa v) H := hP
  obtain rfl : r_1 = 0 := hw
  refine lv_if_eq (tgt := 18) hx hb dX10_merge_7 (by decide) (fun c_2 => ?_) (fun c_2 => absurd (by decide) c_2)
  refine lv_iconst (v := 1) hx hb dX10_merge_18 (by decide) ?_
  refine lv_goto (tgt := 23) hx hb dX10_merge_19 (by decide) ?_
  refine fz_cVi (As := [.int 1, .int 1]) (rest := []) S0 (m_fails1 l A D k q f pa v 1) (fz_cwV (C := RX10) 2 hts fm_553 fm_554 fm_555 fm_556 fm_469 rfl rfl ⟨by decide, by decide, by decide +kernel⟩ ⟨Nat.le_of_ble_eq_true rfl, Nat.le_of_ble_eq_true rfl⟩) (va_recv hK hP (ci := 14) (q0 := 0) rfl rfl) (fun _ h9 => h9) (fun a9 h9 => hA a9 (Nat.le_trans hS.1 h9)) hG hS hP hK hD rfl hl.1 rfl (Nat.le_of_ble_eq_true rfl) dX10_merge_23 ⟨Nat.le_of_ble_eq_true rfl, Nat.le_of_ble_eq_true rfl⟩ (fun r_3 u_3 H locs hw hz1 hk1 hP hS => ?_)
  have hP : va_P D vwCl (fz_WM k q f pa (va_up v 0 1)) H := hP
  have hD : va_D A (fz_WM k q f pa (va_up v 0 1)) := fz_Dsame hD rfl
  obtain rfl : r_3 = 1 := hw
  refine lv_if_ne (tgt := 82) hx hb dX10_merge_26 (by decide) (fun c_4 => ?_) (fun c_4 => absurd c_4 (by decide))
  refine lv_iconst (v := 0) hx hb dX10_merge_82 (by decide) ?_
  have hP : va_P D vwCl (fz_MO q (va_up v 0 1)) H := hP.sub [0] rfl
  exact fz_iret hx hb hr rfl hlocks hS dX10_merge_83 (va_up v 0 1) ⟨rfl, rfl, trivial⟩ hP (Nat.le_of_ble_eq_true rfl) (Nat.le_of_ble_eq_true rfl)

set_option maxHeartbeats 4000000 in
set_option maxRecDepth 100000 in
theorem m_p_container (l : Launch) (A : Nat → Prop) (D : va_G) (k : Nat → ClassId) (q : Nat → Nat) (f : Nat → Nat → Int32) (pa : Nat → Option Nat) (v : Nat → Int32) (p0 p1 : Int32) (g_f_1_2 : f 1 2 = 0)  :
    Met l yX10_container (fz_ws yX10_container cX10_container 3 (some .int)) { frames := 24, cells := 0, slots := 0, locals := 320 } (va_Pc [.ref (q 0), .int p0, .int p1] (fz_PC A D (fz_tys k) (fz_WM k q f pa v))) (fz_QI D A (fun (u : Nat → Int32) => fz_MO q u) (fun (r : Int32) (u : Nat → Int32) => (r = 0 ∧ u 0 = 1 ∧ True))) 0 0 A := by
  refine fz_of (by decide +kernel) (Nat.le_of_ble_eq_true rfl) ?_
  intro p e s m below meth c hx hb hr hml hown hlocks hts hin hA hP hK hD hG hS ls hl
  have hown : s.vm.findClass RX10 = some m.cls := hown
  have S0 : CallFix p m c cX10_container 3 s [.ref (q 0), .int p0, .int p1].toArray (fz_ws yX10_container cX10_container 3 (some .int)) RX10 := ⟨hx, hb, hml, hown, hts⟩
  have hl : lv_has ls 3 [(0, .ref (q 0)), (1, .int p0), (2, .int p1)] := hl
  refine lv_aload_n hx hb dX10_container_0 rfl (lv_at hl 0 rfl) ?_
  refine lv_iconst (v := 1) hx hb dX10_container_1 (by decide) ?_
  refine lv_aload_n hx hb dX10_container_2 rfl (lv_at hl 0 rfl) ?_
  refine lv_iload_n hx hb dX10_container_3 rfl (lv_at hl 1 rfl) ?_
  refine fz_cVi (As := [.int p0]) (rest := [.int 1, .ref (q 0)]) S0 (m_isContainer l A D k q f pa v p0 g_f_1_2) (fz_cwV (C := RX10) 1 hts fm_604 fm_605 fm_606 fm_607 fm_469 rfl rfl ⟨by decide, by decide, by decide +kernel⟩ ⟨Nat.le_of_ble_eq_true rfl, Nat.le_of_ble_eq_true rfl⟩) (va_recv hK hP (ci := 14) (q0 := 0) rfl rfl) (fun _ h9 => h9) (fun a9 h9 => hA a9 (Nat.le_trans hS.1 h9)) hG hS hP hK hD rfl hl.1 rfl (Nat.le_of_ble_eq_true rfl) dX10_container_4 ⟨Nat.le_of_ble_eq_true rfl, Nat.le_of_ble_eq_true rfl⟩ (fun r_1 u_1 H locs hw hz1 hk1 hP hS => ?_)
  have hP : va_P D vwCl (fz_WM k q f pa v) H := hP
  obtain rfl : r_1 = 0 := hw
  refine lv_if_ne (tgt := 14) hx hb dX10_container_7 (by decide) (fun c_2 => absurd (by decide) c_2) (fun c_2 => ?_)
  refine lv_iconst (v := 1) hx hb dX10_container_10 (by decide) ?_
  refine lv_goto (tgt := 15) hx hb dX10_container_11 (by decide) ?_
  refine fz_cVi (As := [.int 1, .int 1]) (rest := []) S0 (m_fails1 l A D k q f pa v 1) (fz_cwV (C := RX10) 2 hts fm_553 fm_554 fm_555 fm_556 fm_469 rfl rfl ⟨by decide, by decide, by decide +kernel⟩ ⟨Nat.le_of_ble_eq_true rfl, Nat.le_of_ble_eq_true rfl⟩) (va_recv hK hP (ci := 14) (q0 := 0) rfl rfl) (fun _ h9 => h9) (fun a9 h9 => hA a9 (Nat.le_trans hS.1 h9)) hG hS hP hK hD rfl hl.1 rfl (Nat.le_of_ble_eq_true rfl) dX10_container_15 ⟨Nat.le_of_ble_eq_true rfl, Nat.le_of_ble_eq_true rfl⟩ (fun r_3 u_3 H locs hw hz1 hk1 hP hS => ?_)
  have hP : va_P D vwCl (fz_WM k q f pa (va_up v 0 1)) H := hP
  have hD : va_D A (fz_WM k q f pa (va_up v 0 1)) := fz_Dsame hD rfl
  obtain rfl : r_3 = 1 := hw
  refine lv_if_ne (tgt := 43) hx hb dX10_container_18 (by decide) (fun c_4 => ?_) (fun c_4 => absurd c_4 (by decide))
  refine lv_iconst (v := 0) hx hb dX10_container_43 (by decide) ?_
  have hP : va_P D vwCl (fz_MO q (va_up v 0 1)) H := hP.sub [0] rfl
  exact fz_iret hx hb hr rfl hlocks hS dX10_container_44 (va_up v 0 1) ⟨rfl, rfl, trivial⟩ hP (Nat.le_of_ble_eq_true rfl) (Nat.le_of_ble_eq_true rfl)

set_option maxHeartbeats 4000000 in
set_option maxRecDepth 100000 in
theorem m_p_unitAt (l : Launch) (A : Nat → Prop) (D : va_G) (k : Nat → ClassId) (q : Nat → Nat) (f : Nat → Nat → Int32) (pa : Nat → Option Nat) (v : Nat → Int32) (p0 p1 : Int32) (g_f_1_2 : f 1 2 = 0)  :
    Met l yX10_unitAt (fz_ws yX10_unitAt cX10_unitAt 3 (some .int)) { frames := 24, cells := 0, slots := 0, locals := 320 } (va_Pc [.ref (q 0), .int p0, .int p1] (fz_PC A D (fz_tys k) (fz_WM k q f pa v))) (fz_QI D A (fun (u : Nat → Int32) => fz_MO q u) (fun (r : Int32) (u : Nat → Int32) => (r = 0 ∧ u 0 = 1 ∧ True))) 0 0 A := by
  refine fz_of (by decide +kernel) (Nat.le_of_ble_eq_true rfl) ?_
  intro p e s m below meth c hx hb hr hml hown hlocks hts hin hA hP hK hD hG hS ls hl
  have hown : s.vm.findClass RX10 = some m.cls := hown
  have S0 : CallFix p m c cX10_unitAt 3 s [.ref (q 0), .int p0, .int p1].toArray (fz_ws yX10_unitAt cX10_unitAt 3 (some .int)) RX10 := ⟨hx, hb, hml, hown, hts⟩
  have hl : lv_has ls 3 [(0, .ref (q 0)), (1, .int p0), (2, .int p1)] := hl
  refine lv_aload_n hx hb dX10_unitAt_0 rfl (lv_at hl 0 rfl) ?_
  refine lv_iconst (v := 1) hx hb dX10_unitAt_1 (by decide) ?_
  refine lv_aload_n hx hb dX10_unitAt_2 rfl (lv_at hl 0 rfl) ?_
  refine lv_iload_n hx hb dX10_unitAt_3 rfl (lv_at hl 1 rfl) ?_
  refine fz_cVi (As := [.int p0]) (rest := [.int 1, .ref (q 0)]) S0 (m_isContainer l A D k q f pa v p0 g_f_1_2) (fz_cwV (C := RX10) 1 hts fm_604 fm_605 fm_606 fm_607 fm_469 rfl rfl ⟨by decide, by decide, by decide +kernel⟩ ⟨Nat.le_of_ble_eq_true rfl, Nat.le_of_ble_eq_true rfl⟩) (va_recv hK hP (ci := 14) (q0 := 0) rfl rfl) (fun _ h9 => h9) (fun a9 h9 => hA a9 (Nat.le_trans hS.1 h9)) hG hS hP hK hD rfl hl.1 rfl (Nat.le_of_ble_eq_true rfl) dX10_unitAt_4 ⟨Nat.le_of_ble_eq_true rfl, Nat.le_of_ble_eq_true rfl⟩ (fun r_1 u_1 H locs hw hz1 hk1 hP hS => ?_)
  have hP : va_P D vwCl (fz_WM k q f pa v) H := hP
  obtain rfl : r_1 = 0 := hw
  refine lv_if_eq (tgt := 26) hx hb dX10_unitAt_7 (by decide) (fun c_2 => ?_) (fun c_2 => absurd (by decide) c_2)
  refine lv_iconst (v := 1) hx hb dX10_unitAt_26 (by decide) ?_
  refine lv_goto (tgt := 31) hx hb dX10_unitAt_27 (by decide) ?_
  refine fz_cVi (As := [.int 1, .int 1]) (rest := []) S0 (m_fails1 l A D k q f pa v 1) (fz_cwV (C := RX10) 2 hts fm_553 fm_554 fm_555 fm_556 fm_469 rfl rfl ⟨by decide, by decide, by decide +kernel⟩ ⟨Nat.le_of_ble_eq_true rfl, Nat.le_of_ble_eq_true rfl⟩) (va_recv hK hP (ci := 14) (q0 := 0) rfl rfl) (fun _ h9 => h9) (fun a9 h9 => hA a9 (Nat.le_trans hS.1 h9)) hG hS hP hK hD rfl hl.1 rfl (Nat.le_of_ble_eq_true rfl) dX10_unitAt_31 ⟨Nat.le_of_ble_eq_true rfl, Nat.le_of_ble_eq_true rfl⟩ (fun r_3 u_3 H locs hw hz1 hk1 hP hS => ?_)
  have hP : va_P D vwCl (fz_WM k q f pa (va_up v 0 1)) H := hP
  have hD : va_D A (fz_WM k q f pa (va_up v 0 1)) := fz_Dsame hD rfl
  obtain rfl : r_3 = 1 := hw
  refine lv_if_eq (tgt := 41) hx hb dX10_unitAt_34 (by decide) (fun c_4 => absurd c_4 (by decide)) (fun c_4 => ?_)
  refine lv_iconst (v := 0) hx hb dX10_unitAt_37 (by decide) ?_
  refine lv_goto (tgt := 49) hx hb dX10_unitAt_38 (by decide) ?_
  have hP : va_P D vwCl (fz_MO q (va_up v 0 1)) H := hP.sub [0] rfl
  exact fz_iret hx hb hr rfl hlocks hS dX10_unitAt_49 (va_up v 0 1) ⟨rfl, rfl, trivial⟩ hP (Nat.le_of_ble_eq_true rfl) (Nat.le_of_ble_eq_true rfl)

set_option maxHeartbeats 4000000 in
set_option maxRecDepth 100000 in
theorem m_p_resolve (l : Launch) (A : Nat → Prop) (D : va_G) (k : Nat → ClassId) (q : Nat → Nat) (f : Nat → Nat → Int32) (pa : Nat → Option Nat) (v : Nat → Int32) (p0 p1 : Int32) (g_f_1_6 : f 1 6 = 0)  :
    Met l yX10_resolve (fz_ws yX10_resolve cX10_resolve 5 (some .int)) { frames := 12, cells := 0, slots := 0, locals := 160 } (va_Pc [.ref (q 0), .int p0, .int p1] (fz_PC A D (fz_tys k) (fz_WM k q f pa v))) (fz_QI D A (fun (u : Nat → Int32) => fz_MO q u) (fun (r : Int32) (u : Nat → Int32) => (r = 0 ∧ u 0 = 1 ∧ True))) 0 0 A := by
  refine fz_of (by decide +kernel) (Nat.le_of_ble_eq_true rfl) ?_
  intro p e s m below meth c hx hb hr hml hown hlocks hts hin hA hP hK hD hG hS ls hl
  have hown : s.vm.findClass RX10 = some m.cls := hown
  have S0 : CallFix p m c cX10_resolve 5 s [.ref (q 0), .int p0, .int p1].toArray (fz_ws yX10_resolve cX10_resolve 5 (some .int)) RX10 := ⟨hx, hb, hml, hown, hts⟩
  have hl : lv_has ls 5 [(0, .ref (q 0)), (1, .int p0), (2, .int p1)] := hl
  refine lv_iconst (v := (-1)) hx hb dX10_resolve_0 (by decide) ?_
  refine lv_istore_n (lv' := [(3, .int (-1)), (0, .ref (q 0)), (1, .int p0), (2, .int p1)]) hx hb dX10_resolve_1 rfl hl (by decide) rfl (fun ls hl => ?_)
  refine lv_iconst (v := 0) hx hb dX10_resolve_2 (by decide) ?_
  refine lv_istore (lv' := [(4, .int 0), (3, .int (-1)), (0, .ref (q 0)), (1, .int p0), (2, .int p1)]) hx hb dX10_resolve_3 hl (by decide) rfl (fun ls hl => ?_)
  refine lv_iload hx hb dX10_resolve_5 (lv_at hl 0 rfl) ?_
  refine lv_aload_n hx hb dX10_resolve_7 rfl (lv_at hl 2 rfl) ?_
  refine va_get (D := D) (ci := 14) (v := .ref (q 1)) (C := RX10) (T := TX10) (N := 22) hx hb hts (fun w9 h9 => fz_m (fin_X10 w9 h9)) hown hK hP 0 rfl rfl 1 (by decide) (hts _ (fz_m fm_462)) (fun _ h9 => h9) rfl dX10_resolve_8 ?_
  refine lv_bipush (v := 6) hx hb dX10_resolve_11 (by decide) ?_
  refine va_iald hx hb hK hP 1 0 rfl rfl (fz_vin (by decide)) dX10_resolve_13 ?_
  refine fz_I (y := 0) g_f_1_6 ?_
  refine lv_icmp_ge (tgt := 79) hx hb dX10_resolve_14 (by decide) (fun c_1 => ?_) (fun c_1 => absurd (by decide) c_1)
  refine lv_aload_n hx hb dX10_resolve_79 rfl (lv_at hl 2 rfl) ?_
  refine lv_iconst (v := 1) hx hb dX10_resolve_80 (by decide) ?_
  refine lv_iload_n hx hb dX10_resolve_81 rfl (lv_at hl 1 rfl) ?_
  refine lv_if_ge (tgt := 89) hx hb dX10_resolve_82 (by decide) (fun c_2 => absurd c_2 (by decide)) (fun c_2 => ?_)
  refine lv_iconst (v := 1) hx hb dX10_resolve_85 (by decide) ?_
  refine lv_goto (tgt := 90) hx hb dX10_resolve_86 (by decide) ?_
  refine fz_cVi (As := [.int 1, .int 1]) (rest := []) S0 (m_fails1 l A D k q f pa v 1) (fz_cwV (C := RX10) 2 hts fm_553 fm_554 fm_555 fm_556 fm_469 rfl rfl ⟨by decide, by decide, by decide +kernel⟩ ⟨Nat.le_of_ble_eq_true rfl, Nat.le_of_ble_eq_true rfl⟩) (va_recv hK hP (ci := 14) (q0 := 0) rfl rfl) (fun _ h9 => h9) (fun a9 h9 => hA a9 (Nat.le_trans hS.1 h9)) hG hS hP hK hD rfl hl.1 rfl (Nat.le_of_ble_eq_true rfl) dX10_resolve_90 ⟨Nat.le_of_ble_eq_true rfl, Nat.le_of_ble_eq_true rfl⟩ (fun r_3 u_3 H locs hw hz1 hk1 hP hS => ?_)
  have hP : va_P D vwCl (fz_WM k q f pa (va_up v 0 1)) H := hP
  have hD : va_D A (fz_WM k q f pa (va_up v 0 1)) := fz_Dsame hD rfl
  obtain rfl : r_3 = 1 := hw
  refine lv_if_eq (tgt := 100) hx hb dX10_resolve_93 (by decide) (fun c_4 => absurd c_4 (by decide)) (fun c_4 => ?_)
  refine lv_iconst (v := 0) hx hb dX10_resolve_96 (by decide) ?_
  refine lv_goto (tgt := 101) hx hb dX10_resolve_97 (by decide) ?_
  have hP : va_P D vwCl (fz_MO q (va_up v 0 1)) H := hP.sub [0] rfl
  exact fz_iret hx hb hr rfl hlocks hS dX10_resolve_101 (va_up v 0 1) ⟨rfl, rfl, trivial⟩ hP (Nat.le_of_ble_eq_true rfl) (Nat.le_of_ble_eq_true rfl)

set_option maxHeartbeats 4000000 in
set_option maxRecDepth 100000 in
theorem m_p_copy (l : Launch) (A : Nat → Prop) (D : va_G) (k : Nat → ClassId) (q : Nat → Nat) (f : Nat → Nat → Int32) (pa : Nat → Option Nat) (v : Nat → Int32) (p0 p1 : Int32) (g_f_1_0 : f 1 0 = 1) (g_f_1_7 : f 1 7 = 1) (g_f_1_10 : f 1 10 = 0)  :
    Met l yX10_copy (fz_ws yX10_copy cX10_copy 5 (some .int)) { frames := 36, cells := 0, slots := 0, locals := 480 } (va_Pc [.ref (q 0), .int p0, .int p1] (fz_PC A D (fz_tys k) (fz_WM k q f pa v))) (fz_QI D A (fun (u : Nat → Int32) => fz_MO q u) (fun (r : Int32) (u : Nat → Int32) => (r = 0 ∧ u 0 = 1 ∧ ¬ (p0 = 0)) ∨ (r = 0 ∧ u 0 = 2 ∧ p0 = 0))) 0 0 A := by
  refine fz_of (by decide +kernel) (Nat.le_of_ble_eq_true rfl) ?_
  intro p e s m below meth c hx hb hr hml hown hlocks hts hin hA hP hK hD hG hS ls hl
  have hown : s.vm.findClass RX10 = some m.cls := hown
  have S0 : CallFix p m c cX10_copy 5 s [.ref (q 0), .int p0, .int p1].toArray (fz_ws yX10_copy cX10_copy 5 (some .int)) RX10 := ⟨hx, hb, hml, hown, hts⟩
  have hl : lv_has ls 5 [(0, .ref (q 0)), (1, .int p0), (2, .int p1)] := hl
  refine lv_aload_n hx hb dX10_copy_0 rfl (lv_at hl 0 rfl) ?_
  refine lv_iload_n hx hb dX10_copy_1 rfl (lv_at hl 1 rfl) ?_
  refine fz_cVi (As := [.int p0]) (rest := []) S0 (m_isUnit l A D k q f pa v p0 g_f_1_0 g_f_1_7 g_f_1_10) (fz_cwV (C := RX10) 1 hts fm_529 fm_530 fm_531 fm_532 fm_469 rfl rfl ⟨by decide, by decide, by decide +kernel⟩ ⟨Nat.le_of_ble_eq_true rfl, Nat.le_of_ble_eq_true rfl⟩) (va_recv hK hP (ci := 14) (q0 := 0) rfl rfl) (fun _ h9 => h9) (fun a9 h9 => hA a9 (Nat.le_trans hS.1 h9)) hG hS hP hK hD rfl hl.1 rfl (Nat.le_of_ble_eq_true rfl) dX10_copy_2 ⟨Nat.le_of_ble_eq_true rfl, Nat.le_of_ble_eq_true rfl⟩ (fun r_1 u_1 H locs hw hz1 hk1 hP hS => ?_)
  have hP : va_P D vwCl (fz_WM k q f pa v) H := hP
  obtain rfl : r_1 = 0 := hw
  refine lv_if_eq (tgt := 33) hx hb dX10_copy_5 (by decide) (fun c_2 => ?_) (fun c_2 => absurd (by decide) c_2)
  refine lv_iconst (v := 0) hx hb dX10_copy_33 (by decide) ?_
  refine lv_istore_n (lv' := [(3, .int 0), (0, .ref (q 0)), (1, .int p0), (2, .int p1)]) hx hb dX10_copy_34 rfl hl (by decide) rfl (fun ls hl => ?_)
  refine lv_aload_n hx hb dX10_copy_35 rfl (lv_at hl 1 rfl) ?_
  refine lv_iconst (v := 1) hx hb dX10_copy_36 (by decide) ?_
  refine lv_aload_n hx hb dX10_copy_37 rfl (lv_at hl 1 rfl) ?_
  refine lv_iload_n hx hb dX10_copy_38 rfl (lv_at hl 2 rfl) ?_
  refine fz_cVi (As := [.int p0]) (rest := [.int 1, .ref (q 0)]) S0 (m_isNode l A D k q f pa v p0 g_f_1_0 g_f_1_7) (fz_cwV (C := RX10) 1 hts fm_481 fm_482 fm_483 fm_484 fm_469 rfl rfl ⟨by decide, by decide, by decide +kernel⟩ ⟨Nat.le_of_ble_eq_true rfl, Nat.le_of_ble_eq_true rfl⟩) (va_recv hK hP (ci := 14) (q0 := 0) rfl rfl) (fun _ h9 => h9) (fun a9 h9 => hA a9 (Nat.le_trans hS.1 h9)) hG hS hP hK hD rfl hl.1 rfl (Nat.le_of_ble_eq_true rfl) dX10_copy_39 ⟨Nat.le_of_ble_eq_true rfl, Nat.le_of_ble_eq_true rfl⟩ (fun r_3 u_3 H locs hw hz1 hk1 hP hS => ?_)
  have hP : va_P D vwCl (fz_WM k q f pa v) H := hP
  rcases (show (r_3 = 1 ∧ p0 = 0) ∨ (r_3 = 0 ∧ ¬ (p0 = 0)) from hw) with ⟨rfl, hq_3⟩ | ⟨rfl, hq_3⟩
  · skip
    obtain rfl : p0 = 0 := (fq_27 p0 hq_3)
    refine lv_if_ne (tgt := 49) hx hb dX10_copy_42 (by decide) (fun c_4 => ?_) (fun c_4 => absurd c_4 (by decide))
    refine lv_iconst (v := 0) hx hb dX10_copy_49 (by decide) ?_
    refine fz_cVi (As := [.int 1, .int 0]) (rest := []) S0 (m_fails0 l A D k q f pa v 1) (fz_cwV (C := RX10) 2 hts fm_553 fm_554 fm_555 fm_556 fm_469 rfl rfl ⟨by decide, by decide, by decide +kernel⟩ ⟨Nat.le_of_ble_eq_true rfl, Nat.le_of_ble_eq_true rfl⟩) (va_recv hK hP (ci := 14) (q0 := 0) rfl rfl) (fun _ h9 => h9) (fun a9 h9 => hA a9 (Nat.le_trans hS.1 h9)) hG hS hP hK hD rfl hl.1 rfl (Nat.le_of_ble_eq_true rfl) dX10_copy_50 ⟨Nat.le_of_ble_eq_true rfl, Nat.le_of_ble_eq_true rfl⟩ (fun r_5 u_5 H locs hw hz1 hk1 hP hS => ?_)
    have hP : va_P D vwCl (fz_WM k q f pa (va_up v 0 0)) H := hP
    have hD : va_D A (fz_WM k q f pa (va_up v 0 0)) := fz_Dsame hD rfl
    obtain rfl : r_5 = 0 := hw
    refine lv_if_ne (tgt := 97) hx hb dX10_copy_53 (by decide) (fun c_6 => absurd (by decide) c_6) (fun c_6 => ?_)
    refine lv_aload_n hx hb dX10_copy_56 rfl (lv_at hl 1 rfl) ?_
    refine lv_iconst (v := 2) hx hb dX10_copy_57 (by decide) ?_
    refine lv_iload_n hx hb dX10_copy_58 rfl (lv_at hl 0 rfl) ?_
    refine lv_if_ne (tgt := 66) hx hb dX10_copy_59 (by decide) (fun c_7 => absurd (by decide) c_7) (fun c_7 => ?_)
    refine lv_iconst (v := 1) hx hb dX10_copy_62 (by decide) ?_
    refine lv_goto (tgt := 67) hx hb dX10_copy_63 (by decide) ?_
    refine fz_cVi (As := [.int 2, .int 1]) (rest := []) S0 (m_fails1 l A D k q f pa (va_up v 0 0) 2) (fz_cwV (C := RX10) 2 hts fm_553 fm_554 fm_555 fm_556 fm_469 rfl rfl ⟨by decide, by decide, by decide +kernel⟩ ⟨Nat.le_of_ble_eq_true rfl, Nat.le_of_ble_eq_true rfl⟩) (va_recv hK hP (ci := 14) (q0 := 0) rfl rfl) (fun _ h9 => h9) (fun a9 h9 => hA a9 (Nat.le_trans hS.1 h9)) hG hS hP hK hD rfl hl.1 rfl (Nat.le_of_ble_eq_true rfl) dX10_copy_67 ⟨Nat.le_of_ble_eq_true rfl, Nat.le_of_ble_eq_true rfl⟩ (fun r_8 u_8 H locs hw hz1 hk1 hP hS => ?_)
    have hP : va_P D vwCl (fz_WM k q f pa (va_up v 0 2)) H := hP
    have hD : va_D A (fz_WM k q f pa (va_up v 0 2)) := fz_Dsame hD rfl
    obtain rfl : r_8 = 1 := hw
    refine lv_if_ne (tgt := 97) hx hb dX10_copy_70 (by decide) (fun c_9 => ?_) (fun c_9 => absurd c_9 (by decide))
    refine lv_iconst (v := 0) hx hb dX10_copy_97 (by decide) ?_
    have hP : va_P D vwCl (fz_MO q (va_up v 0 2)) H := hP.sub [0] rfl
    exact fz_iret hx hb hr rfl hlocks hS dX10_copy_98 (va_up v 0 2) (Or.inr ⟨rfl, rfl, (fq_3 )⟩) hP (Nat.le_of_ble_eq_true rfl) (Nat.le_of_ble_eq_true rfl)
  · skip
    refine lv_if_ne (tgt := 49) hx hb dX10_copy_42 (by decide) (fun c_10 => absurd (by decide) c_10) (fun c_10 => ?_)
    refine lv_iconst (v := 1) hx hb dX10_copy_45 (by decide) ?_
    refine lv_goto (tgt := 50) hx hb dX10_copy_46 (by decide) ?_
    refine fz_cVi (As := [.int 1, .int 1]) (rest := []) S0 (m_fails1 l A D k q f pa v 1) (fz_cwV (C := RX10) 2 hts fm_553 fm_554 fm_555 fm_556 fm_469 rfl rfl ⟨by decide, by decide, by decide +kernel⟩ ⟨Nat.le_of_ble_eq_true rfl, Nat.le_of_ble_eq_true rfl⟩) (va_recv hK hP (ci := 14) (q0 := 0) rfl rfl) (fun _ h9 => h9) (fun a9 h9 => hA a9 (Nat.le_trans hS.1 h9)) hG hS hP hK hD rfl hl.1 rfl (Nat.le_of_ble_eq_true rfl) dX10_copy_50 ⟨Nat.le_of_ble_eq_true rfl, Nat.le_of_ble_eq_true rfl⟩ (fun r_11 u_11 H locs hw hz1 hk1 hP hS => ?_)
    have hP : va_P D vwCl (fz_WM k q f pa (va_up v 0 1)) H := hP
    have hD : va_D A (fz_WM k q f pa (va_up v 0 1)) := fz_Dsame hD rfl
    obtain rfl : r_11 = 1 := hw
    refine lv_if_ne (tgt := 97) hx hb dX10_copy_53 (by decide) (fun c_12 => ?_) (fun c_12 => absurd c_12 (by decide))
    refine lv_iconst (v := 0) hx hb dX10_copy_97 (by decide) ?_
    have hP : va_P D vwCl (fz_MO q (va_up v 0 1)) H := hP.sub [0] rfl
    exact fz_iret hx hb hr rfl hlocks hS dX10_copy_98 (va_up v 0 1) (Or.inl ⟨rfl, rfl, (fq_28 p0 hq_3)⟩) hP (Nat.le_of_ble_eq_true rfl) (Nat.le_of_ble_eq_true rfl)

set_option maxHeartbeats 4000000 in
set_option maxRecDepth 100000 in
theorem m_p_copyPart (l : Launch) (A : Nat → Prop) (D : va_G) (k : Nat → ClassId) (q : Nat → Nat) (f : Nat → Nat → Int32) (pa : Nat → Option Nat) (v : Nat → Int32) (p0 p1 : Int32) (g_f_1_3 : f 1 3 = 0)  :
    Met l yX10_copyPart (fz_ws yX10_copyPart cX10_copyPart 5 (some .int)) { frames := 24, cells := 0, slots := 0, locals := 320 } (va_Pc [.ref (q 0), .int p0, .int p1] (fz_PC A D (fz_tys k) (fz_WM k q f pa v))) (fz_QI D A (fun (u : Nat → Int32) => fz_MO q u) (fun (r : Int32) (u : Nat → Int32) => (r = 0 ∧ u 0 = 1 ∧ True))) 0 0 A := by
  refine fz_of (by decide +kernel) (Nat.le_of_ble_eq_true rfl) ?_
  intro p e s m below meth c hx hb hr hml hown hlocks hts hin hA hP hK hD hG hS ls hl
  have hown : s.vm.findClass RX10 = some m.cls := hown
  have S0 : CallFix p m c cX10_copyPart 5 s [.ref (q 0), .int p0, .int p1].toArray (fz_ws yX10_copyPart cX10_copyPart 5 (some .int)) RX10 := ⟨hx, hb, hml, hown, hts⟩
  have hl : lv_has ls 5 [(0, .ref (q 0)), (1, .int p0), (2, .int p1)] := hl
  refine lv_aload_n hx hb dX10_copyPart_0 rfl (lv_at hl 0 rfl) ?_
  refine lv_iconst (v := 1) hx hb dX10_copyPart_1 (by decide) ?_
  refine lv_aload_n hx hb dX10_copyPart_2 rfl (lv_at hl 0 rfl) ?_
  refine lv_iload_n hx hb dX10_copyPart_3 rfl (lv_at hl 1 rfl) ?_
  refine fz_cVi (As := [.int p0]) (rest := [.int 1, .ref (q 0)]) S0 (m_isCopy l A D k q f pa v p0 g_f_1_3) (fz_cwV (C := RX10) 1 hts fm_589 fm_590 fm_591 fm_592 fm_469 rfl rfl ⟨by decide, by decide, by decide +kernel⟩ ⟨Nat.le_of_ble_eq_true rfl, Nat.le_of_ble_eq_true rfl⟩) (va_recv hK hP (ci := 14) (q0 := 0) rfl rfl) (fun _ h9 => h9) (fun a9 h9 => hA a9 (Nat.le_trans hS.1 h9)) hG hS hP hK hD rfl hl.1 rfl (Nat.le_of_ble_eq_true rfl) dX10_copyPart_4 ⟨Nat.le_of_ble_eq_true rfl, Nat.le_of_ble_eq_true rfl⟩ (fun r_1 u_1 H locs hw hz1 hk1 hP hS => ?_)
  have hP : va_P D vwCl (fz_WM k q f pa v) H := hP
  obtain rfl : r_1 = 0 := hw
  refine lv_if_ne (tgt := 14) hx hb dX10_copyPart_7 (by decide) (fun c_2 => absurd (by decide) c_2) (fun c_2 => ?_)
  refine lv_iconst (v := 1) hx hb dX10_copyPart_10 (by decide) ?_
  refine lv_goto (tgt := 15) hx hb dX10_copyPart_11 (by decide) ?_
  refine fz_cVi (As := [.int 1, .int 1]) (rest := []) S0 (m_fails1 l A D k q f pa v 1) (fz_cwV (C := RX10) 2 hts fm_553 fm_554 fm_555 fm_556 fm_469 rfl rfl ⟨by decide, by decide, by decide +kernel⟩ ⟨Nat.le_of_ble_eq_true rfl, Nat.le_of_ble_eq_true rfl⟩) (va_recv hK hP (ci := 14) (q0 := 0) rfl rfl) (fun _ h9 => h9) (fun a9 h9 => hA a9 (Nat.le_trans hS.1 h9)) hG hS hP hK hD rfl hl.1 rfl (Nat.le_of_ble_eq_true rfl) dX10_copyPart_15 ⟨Nat.le_of_ble_eq_true rfl, Nat.le_of_ble_eq_true rfl⟩ (fun r_3 u_3 H locs hw hz1 hk1 hP hS => ?_)
  have hP : va_P D vwCl (fz_WM k q f pa (va_up v 0 1)) H := hP
  have hD : va_D A (fz_WM k q f pa (va_up v 0 1)) := fz_Dsame hD rfl
  obtain rfl : r_3 = 1 := hw
  refine lv_if_ne (tgt := 43) hx hb dX10_copyPart_18 (by decide) (fun c_4 => ?_) (fun c_4 => absurd c_4 (by decide))
  refine lv_iconst (v := 0) hx hb dX10_copyPart_43 (by decide) ?_
  have hP : va_P D vwCl (fz_MO q (va_up v 0 1)) H := hP.sub [0] rfl
  exact fz_iret hx hb hr rfl hlocks hS dX10_copyPart_44 (va_up v 0 1) ⟨rfl, rfl, trivial⟩ hP (Nat.le_of_ble_eq_true rfl) (Nat.le_of_ble_eq_true rfl)

set_option maxHeartbeats 4000000 in
set_option maxRecDepth 100000 in
theorem m_p_setSeats (l : Launch) (A : Nat → Prop) (D : va_G) (k : Nat → ClassId) (q : Nat → Nat) (f : Nat → Nat → Int32) (pa : Nat → Option Nat) (v : Nat → Int32) (p0 : Int32) (g_v_5 : v 5 = 0) (g_pb_0 : pa 0 = some (q 7)) (g_f_1_5 : f 1 5 = 3)  :
    Met l yX10_setSeats (fz_ws yX10_setSeats cX10_setSeats 3 (some .int)) { frames := 48, cells := 0, slots := 0, locals := 640 } (va_Pc [.ref (q 0), .int p0] (fz_PC A D (fz_tys k) (fz_WM k q f pa v))) (fz_QI D A (fun (u : Nat → Int32) => fz_MO q u) (fun (r : Int32) (u : Nat → Int32) => (r = 0 ∧ u 0 = 1 ∧ ¬ ((1 ≤ p0 ∧ p0 ≤ 6))) ∨ (r = 3 ∧ u 0 = 0 ∧ (1 ≤ p0 ∧ p0 ≤ 6)))) 0 0 A := by
  refine fz_of (by decide +kernel) (Nat.le_of_ble_eq_true rfl) ?_
  intro p e s m below meth c hx hb hr hml hown hlocks hts hin hA hP hK hD hG hS ls hl
  have hown : s.vm.findClass RX10 = some m.cls := hown
  have S0 : CallFix p m c cX10_setSeats 3 s [.ref (q 0), .int p0].toArray (fz_ws yX10_setSeats cX10_setSeats 3 (some .int)) RX10 := ⟨hx, hb, hml, hown, hts⟩
  have hl : lv_has ls 3 [(0, .ref (q 0)), (1, .int p0)] := hl
  refine lv_aload_n hx hb dX10_setSeats_0 rfl (lv_at hl 0 rfl) ?_
  refine lv_iconst (v := 1) hx hb dX10_setSeats_1 (by decide) ?_
  refine lv_iload_n hx hb dX10_setSeats_2 rfl (lv_at hl 1 rfl) ?_
  refine lv_iconst (v := 1) hx hb dX10_setSeats_3 (by decide) ?_
  refine lv_bipush (v := 6) hx hb dX10_setSeats_4 (by decide) ?_
  refine fz_cSi (As := [.int p0, .int 1, .int 6]) (rest := [.int 1, .ref (q 0)]) S0 (m_isBetween l A D k q f pa v p0 1 6) (fz_cwS 3 hts fm_474 fm_475 fm_476 fm_469 rfl rfl ⟨by decide, by decide, by decide +kernel⟩ ⟨Nat.le_of_ble_eq_true rfl, Nat.le_of_ble_eq_true rfl⟩) (fun _ h9 => h9) (fun a9 h9 => hA a9 (Nat.le_trans hS.1 h9)) hG hS hP hK hD rfl hl.1 rfl (Nat.le_of_ble_eq_true rfl) dX10_setSeats_6 ⟨Nat.le_of_ble_eq_true rfl, Nat.le_of_ble_eq_true rfl⟩ (fun r_1 u_1 H locs hw hz1 hk1 hP hS => ?_)
  have hP : va_P D vwCl (fz_WM k q f pa v) H := hP
  rcases (show (r_1 = 1 ∧ (1 ≤ p0 ∧ p0 ≤ 6)) ∨ (r_1 = 0 ∧ ¬ ((1 ≤ p0 ∧ p0 ≤ 6))) from hw) with ⟨rfl, hq_1⟩ | ⟨rfl, hq_1⟩
  · skip
    refine lv_if_ne (tgt := 16) hx hb dX10_setSeats_9 (by decide) (fun c_2 => ?_) (fun c_2 => absurd c_2 (by decide))
    refine lv_iconst (v := 0) hx hb dX10_setSeats_16 (by decide) ?_
    refine fz_cVi (As := [.int 1, .int 0]) (rest := []) S0 (m_fails0 l A D k q f pa v 1) (fz_cwV (C := RX10) 2 hts fm_553 fm_554 fm_555 fm_556 fm_469 rfl rfl ⟨by decide, by decide, by decide +kernel⟩ ⟨Nat.le_of_ble_eq_true rfl, Nat.le_of_ble_eq_true rfl⟩) (va_recv hK hP (ci := 14) (q0 := 0) rfl rfl) (fun _ h9 => h9) (fun a9 h9 => hA a9 (Nat.le_trans hS.1 h9)) hG hS hP hK hD rfl hl.1 rfl (Nat.le_of_ble_eq_true rfl) dX10_setSeats_17 ⟨Nat.le_of_ble_eq_true rfl, Nat.le_of_ble_eq_true rfl⟩ (fun r_3 u_3 H locs hw hz1 hk1 hP hS => ?_)
    have hP : va_P D vwCl (fz_WM k q f pa (va_up v 0 0)) H := hP
    have hD : va_D A (fz_WM k q f pa (va_up v 0 0)) := fz_Dsame hD rfl
    obtain rfl : r_3 = 0 := hw
    refine lv_if_eq (tgt := 25) hx hb dX10_setSeats_20 (by decide) (fun c_4 => ?_) (fun c_4 => absurd (by decide) c_4)
    refine lv_aload_n hx hb dX10_setSeats_25 rfl (lv_at hl 0 rfl) ?_
    refine fz_cVv (As := []) (rest := []) S0 (m_remember l A D k q f pa (va_up v 0 0) g_v_5 g_pb_0) (fz_cwV (C := RX10) 0 hts fm_561 fm_562 fm_563 fm_564 fm_469 rfl rfl ⟨by decide, by decide, by decide +kernel⟩ ⟨Nat.le_of_ble_eq_true rfl, Nat.le_of_ble_eq_true rfl⟩) (va_recv hK hP (ci := 14) (q0 := 0) rfl rfl) (fun _ h9 => h9) (fun a9 h9 => hA a9 (Nat.le_trans hS.1 h9)) hG hS hP hK hD rfl hl.1 rfl (Nat.le_of_ble_eq_true rfl) dX10_setSeats_26 ⟨Nat.le_of_ble_eq_true rfl, Nat.le_of_ble_eq_true rfl⟩ (fun u_5 H locs hw hz1 hk1 hP hS => ?_)
    have hP : va_P D vwCl (fz_WM k q (va_up f 7 u_5) pa (va_up (va_up v 0 0) 5 1)) H := hP
    have hD : va_D A (fz_WM k q (va_up f 7 u_5) pa (va_up (va_up v 0 0) 5 1)) := fz_Dsame hD rfl
    refine lv_aload_n hx hb dX10_setSeats_29 rfl (lv_at hl 0 rfl) ?_
    refine va_get (D := D) (ci := 14) (v := .ref (q 1)) (C := RX10) (T := TX10) (N := 22) hx hb hts (fun w9 h9 => fz_m (fin_X10 w9 h9)) hown hK hP 0 rfl rfl 1 (by decide) (hts _ (fz_m fm_462)) (fun _ h9 => h9) rfl dX10_setSeats_30 ?_
    refine lv_iconst (v := 5) hx hb dX10_setSeats_33 (by decide) ?_
    refine va_iald hx hb hK hP 1 0 rfl rfl (fz_vin (by decide)) dX10_setSeats_34 ?_
    refine fz_I (y := 3) g_f_1_5 ?_
    refine lv_istore_n (lv' := [(2, .int 3), (0, .ref (q 0)), (1, .int p0)]) hx hb dX10_setSeats_35 rfl hl (by decide) rfl (fun ls hl => ?_)
    refine lv_aload_n hx hb dX10_setSeats_36 rfl (lv_at hl 1 rfl) ?_
    refine va_get (D := D) (ci := 14) (v := .ref (q 1)) (C := RX10) (T := TX10) (N := 22) hx hb hts (fun w9 h9 => fz_m (fin_X10 w9 h9)) hown hK hP 0 rfl rfl 1 (by decide) (hts _ (fz_m fm_462)) (fun _ h9 => h9) rfl dX10_setSeats_37 ?_
    refine lv_iconst (v := 5) hx hb dX10_setSeats_40 (by decide) ?_
    refine lv_iload_n hx hb dX10_setSeats_41 rfl (lv_at hl 2 rfl) ?_
    refine va_iast hx hb hK hP hD hS 1 0 rfl rfl (fz_vin (by decide)) dX10_setSeats_42 (fun H locs hP hD hS => ?_)
    have hP : va_P D vwCl (fz_WM k q (va_up (va_up f 7 u_5) 1 (upd (f 1) 5 p0)) pa (va_up (va_up v 0 0) 5 1)) H := hP
    have hD : va_D A (fz_WM k q (va_up (va_up f 7 u_5) 1 (upd (f 1) 5 p0)) pa (va_up (va_up v 0 0) 5 1)) := hD
    refine lv_iload_n hx hb dX10_setSeats_43 rfl (lv_at hl 0 rfl) ?_
    have hP : va_P D vwCl (fz_MO q (va_up (va_up v 0 0) 5 1)) H := hP.sub [0] rfl
    exact fz_iret hx hb hr rfl hlocks hS dX10_setSeats_44 (va_up (va_up v 0 0) 5 1) (Or.inr ⟨rfl, rfl, (fq_122 p0 hq_1)⟩) hP (Nat.le_of_ble_eq_true rfl) (Nat.le_of_ble_eq_true rfl)
  · skip
    refine lv_if_ne (tgt := 16) hx hb dX10_setSeats_9 (by decide) (fun c_6 => absurd (by decide) c_6) (fun c_6 => ?_)
    refine lv_iconst (v := 1) hx hb dX10_setSeats_12 (by decide) ?_
    refine lv_goto (tgt := 17) hx hb dX10_setSeats_13 (by decide) ?_
    refine fz_cVi (As := [.int 1, .int 1]) (rest := []) S0 (m_fails1 l A D k q f pa v 1) (fz_cwV (C := RX10) 2 hts fm_553 fm_554 fm_555 fm_556 fm_469 rfl rfl ⟨by decide, by decide, by decide +kernel⟩ ⟨Nat.le_of_ble_eq_true rfl, Nat.le_of_ble_eq_true rfl⟩) (va_recv hK hP (ci := 14) (q0 := 0) rfl rfl) (fun _ h9 => h9) (fun a9 h9 => hA a9 (Nat.le_trans hS.1 h9)) hG hS hP hK hD rfl hl.1 rfl (Nat.le_of_ble_eq_true rfl) dX10_setSeats_17 ⟨Nat.le_of_ble_eq_true rfl, Nat.le_of_ble_eq_true rfl⟩ (fun r_7 u_7 H locs hw hz1 hk1 hP hS => ?_)
    have hP : va_P D vwCl (fz_WM k q f pa (va_up v 0 1)) H := hP
    have hD : va_D A (fz_WM k q f pa (va_up v 0 1)) := fz_Dsame hD rfl
    obtain rfl : r_7 = 1 := hw
    refine lv_if_eq (tgt := 25) hx hb dX10_setSeats_20 (by decide) (fun c_8 => absurd c_8 (by decide)) (fun c_8 => ?_)
    refine lv_iconst (v := 0) hx hb dX10_setSeats_23 (by decide) ?_
    have hP : va_P D vwCl (fz_MO q (va_up v 0 1)) H := hP.sub [0] rfl
    exact fz_iret hx hb hr rfl hlocks hS dX10_setSeats_24 (va_up v 0 1) (Or.inl ⟨rfl, rfl, (fq_123 p0 hq_1)⟩) hP (Nat.le_of_ble_eq_true rfl) (Nat.le_of_ble_eq_true rfl)

set_option maxHeartbeats 4000000 in
set_option maxRecDepth 100000 in
theorem m_p_request (l : Launch) (A : Nat → Prop) (D : va_G) (k : Nat → ClassId) (q : Nat → Nat) (f : Nat → Nat → Int32) (pa : Nat → Option Nat) (v : Nat → Int32) (p0 p1 p2 : Int32) (g_f_1_0 : f 1 0 = 1) (g_f_1_7 : f 1 7 = 1) (g_f_1_10 : f 1 10 = 0)  :
    Met l yX10_request (fz_ws yX10_request cX10_request 6 (some .int)) { frames := 36, cells := 0, slots := 0, locals := 480 } (va_Pc [.ref (q 0), .int p0, .int p1, .int p2] (fz_PC A D (fz_tys k) (fz_WM k q f pa v))) (fz_QI D A (fun (u : Nat → Int32) => fz_MO q u) (fun (r : Int32) (u : Nat → Int32) => (r = 0 ∧ u 0 = 1 ∧ (¬ ((0 ≤ p0 ∧ p0 ≤ 7)) ∨ ¬ (p1 = 0))) ∨ (r = 0 ∧ u 0 = 2 ∧ ((0 ≤ p0 ∧ p0 ≤ 7) ∧ p1 = 0)))) 0 0 A := by
  refine fz_of (by decide +kernel) (Nat.le_of_ble_eq_true rfl) ?_
  intro p e s m below meth c hx hb hr hml hown hlocks hts hin hA hP hK hD hG hS ls hl
  have hown : s.vm.findClass RX10 = some m.cls := hown
  have S0 : CallFix p m c cX10_request 6 s [.ref (q 0), .int p0, .int p1, .int p2].toArray (fz_ws yX10_request cX10_request 6 (some .int)) RX10 := ⟨hx, hb, hml, hown, hts⟩
  have hl : lv_has ls 6 [(0, .ref (q 0)), (1, .int p0), (2, .int p1), (3, .int p2)] := hl
  refine lv_aload_n hx hb dX10_request_0 rfl (lv_at hl 0 rfl) ?_
  refine lv_iconst (v := 1) hx hb dX10_request_1 (by decide) ?_
  refine lv_iload_n hx hb dX10_request_2 rfl (lv_at hl 1 rfl) ?_
  refine lv_iconst (v := 0) hx hb dX10_request_3 (by decide) ?_
  refine lv_bipush (v := 7) hx hb dX10_request_4 (by decide) ?_
  refine fz_cSi (As := [.int p0, .int 0, .int 7]) (rest := [.int 1, .ref (q 0)]) S0 (m_isBetween l A D k q f pa v p0 0 7) (fz_cwS 3 hts fm_474 fm_475 fm_476 fm_469 rfl rfl ⟨by decide, by decide, by decide +kernel⟩ ⟨Nat.le_of_ble_eq_true rfl, Nat.le_of_ble_eq_true rfl⟩) (fun _ h9 => h9) (fun a9 h9 => hA a9 (Nat.le_trans hS.1 h9)) hG hS hP hK hD rfl hl.1 rfl (Nat.le_of_ble_eq_true rfl) dX10_request_6 ⟨Nat.le_of_ble_eq_true rfl, Nat.le_of_ble_eq_true rfl⟩ (fun r_1 u_1 H locs hw hz1 hk1 hP hS => ?_)
  have hP : va_P D vwCl (fz_WM k q f pa v) H := hP
  rcases (show (r_1 = 1 ∧ (0 ≤ p0 ∧ p0 ≤ 7)) ∨ (r_1 = 0 ∧ ¬ ((0 ≤ p0 ∧ p0 ≤ 7))) from hw) with ⟨rfl, hq_1⟩ | ⟨rfl, hq_1⟩
  · skip
    refine lv_if_eq (tgt := 20) hx hb dX10_request_9 (by decide) (fun c_2 => absurd c_2 (by decide)) (fun c_2 => ?_)
    refine lv_aload_n hx hb dX10_request_12 rfl (lv_at hl 0 rfl) ?_
    refine lv_iload_n hx hb dX10_request_13 rfl (lv_at hl 2 rfl) ?_
    refine fz_cVi (As := [.int p1]) (rest := [.int 1, .ref (q 0)]) S0 (m_isNode l A D k q f pa v p1 g_f_1_0 g_f_1_7) (fz_cwV (C := RX10) 1 hts fm_481 fm_482 fm_483 fm_484 fm_469 rfl rfl ⟨by decide, by decide, by decide +kernel⟩ ⟨Nat.le_of_ble_eq_true rfl, Nat.le_of_ble_eq_true rfl⟩) (va_recv hK hP (ci := 14) (q0 := 0) rfl rfl) (fun _ h9 => h9) (fun a9 h9 => hA a9 (Nat.le_trans hS.1 h9)) hG hS hP hK hD rfl hl.1 rfl (Nat.le_of_ble_eq_true rfl) dX10_request_14 ⟨Nat.le_of_ble_eq_true rfl, Nat.le_of_ble_eq_true rfl⟩ (fun r_3 u_3 H locs hw hz1 hk1 hP hS => ?_)
    have hP : va_P D vwCl (fz_WM k q f pa v) H := hP
    rcases (show (r_3 = 1 ∧ p1 = 0) ∨ (r_3 = 0 ∧ ¬ (p1 = 0)) from hw) with ⟨rfl, hq_3⟩ | ⟨rfl, hq_3⟩
    · skip
      obtain rfl : p1 = 0 := (fq_27 p1 hq_3)
      refine lv_if_ne (tgt := 24) hx hb dX10_request_17 (by decide) (fun c_4 => ?_) (fun c_4 => absurd c_4 (by decide))
      refine lv_iconst (v := 0) hx hb dX10_request_24 (by decide) ?_
      refine fz_cVi (As := [.int 1, .int 0]) (rest := []) S0 (m_fails0 l A D k q f pa v 1) (fz_cwV (C := RX10) 2 hts fm_553 fm_554 fm_555 fm_556 fm_469 rfl rfl ⟨by decide, by decide, by decide +kernel⟩ ⟨Nat.le_of_ble_eq_true rfl, Nat.le_of_ble_eq_true rfl⟩) (va_recv hK hP (ci := 14) (q0 := 0) rfl rfl) (fun _ h9 => h9) (fun a9 h9 => hA a9 (Nat.le_trans hS.1 h9)) hG hS hP hK hD rfl hl.1 rfl (Nat.le_of_ble_eq_true rfl) dX10_request_25 ⟨Nat.le_of_ble_eq_true rfl, Nat.le_of_ble_eq_true rfl⟩ (fun r_5 u_5 H locs hw hz1 hk1 hP hS => ?_)
      have hP : va_P D vwCl (fz_WM k q f pa (va_up v 0 0)) H := hP
      have hD : va_D A (fz_WM k q f pa (va_up v 0 0)) := fz_Dsame hD rfl
      obtain rfl : r_5 = 0 := hw
      refine lv_if_ne (tgt := 83) hx hb dX10_request_28 (by decide) (fun c_6 => absurd (by decide) c_6) (fun c_6 => ?_)
      refine lv_aload_n hx hb dX10_request_31 rfl (lv_at hl 0 rfl) ?_
      refine lv_iconst (v := 2) hx hb dX10_request_32 (by decide) ?_
      refine lv_aload_n hx hb dX10_request_33 rfl (lv_at hl 0 rfl) ?_
      refine lv_iload_n hx hb dX10_request_34 rfl (lv_at hl 2 rfl) ?_
      refine fz_cVi (As := [.int 0]) (rest := [.int 2, .ref (q 0)]) S0 (m_isUnit l A D k q f pa (va_up v 0 0) 0 g_f_1_0 g_f_1_7 g_f_1_10) (fz_cwV (C := RX10) 1 hts fm_529 fm_530 fm_531 fm_532 fm_469 rfl rfl ⟨by decide, by decide, by decide +kernel⟩ ⟨Nat.le_of_ble_eq_true rfl, Nat.le_of_ble_eq_true rfl⟩) (va_recv hK hP (ci := 14) (q0 := 0) rfl rfl) (fun _ h9 => h9) (fun a9 h9 => hA a9 (Nat.le_trans hS.1 h9)) hG hS hP hK hD rfl hl.1 rfl (Nat.le_of_ble_eq_true rfl) dX10_request_35 ⟨Nat.le_of_ble_eq_true rfl, Nat.le_of_ble_eq_true rfl⟩ (fun r_7 u_7 H locs hw hz1 hk1 hP hS => ?_)
      have hP : va_P D vwCl (fz_WM k q f pa (va_up v 0 0)) H := hP
      obtain rfl : r_7 = 0 := hw
      refine lv_if_eq (tgt := 48) hx hb dX10_request_38 (by decide) (fun c_8 => ?_) (fun c_8 => absurd (by decide) c_8)
      refine lv_iconst (v := 1) hx hb dX10_request_48 (by decide) ?_
      refine lv_goto (tgt := 53) hx hb dX10_request_49 (by decide) ?_
      refine fz_cVi (As := [.int 2, .int 1]) (rest := []) S0 (m_fails1 l A D k q f pa (va_up v 0 0) 2) (fz_cwV (C := RX10) 2 hts fm_553 fm_554 fm_555 fm_556 fm_469 rfl rfl ⟨by decide, by decide, by decide +kernel⟩ ⟨Nat.le_of_ble_eq_true rfl, Nat.le_of_ble_eq_true rfl⟩) (va_recv hK hP (ci := 14) (q0 := 0) rfl rfl) (fun _ h9 => h9) (fun a9 h9 => hA a9 (Nat.le_trans hS.1 h9)) hG hS hP hK hD rfl hl.1 rfl (Nat.le_of_ble_eq_true rfl) dX10_request_53 ⟨Nat.le_of_ble_eq_true rfl, Nat.le_of_ble_eq_true rfl⟩ (fun r_9 u_9 H locs hw hz1 hk1 hP hS => ?_)
      have hP : va_P D vwCl (fz_WM k q f pa (va_up v 0 2)) H := hP
      have hD : va_D A (fz_WM k q f pa (va_up v 0 2)) := fz_Dsame hD rfl
      obtain rfl : r_9 = 1 := hw
      refine lv_if_ne (tgt := 83) hx hb dX10_request_56 (by decide) (fun c_10 => ?_) (fun c_10 => absurd c_10 (by decide))
      refine lv_iconst (v := 0) hx hb dX10_request_83 (by decide) ?_
      have hP : va_P D vwCl (fz_MO q (va_up v 0 2)) H := hP.sub [0] rfl
      exact fz_iret hx hb hr rfl hlocks hS dX10_request_84 (va_up v 0 2) (Or.inr ⟨rfl, rfl, (fq_124 p0 hq_1)⟩) hP (Nat.le_of_ble_eq_true rfl) (Nat.le_of_ble_eq_true rfl)
    · skip
      refine lv_if_ne (tgt := 24) hx hb dX10_request_17 (by decide) (fun c_11 => absurd (by decide) c_11) (fun c_11 => ?_)
      refine lv_iconst (v := 1) hx hb dX10_request_20 (by decide) ?_
      refine lv_goto (tgt := 25) hx hb dX10_request_21 (by decide) ?_
      refine fz_cVi (As := [.int 1, .int 1]) (rest := []) S0 (m_fails1 l A D k q f pa v 1) (fz_cwV (C := RX10) 2 hts fm_553 fm_554 fm_555 fm_556 fm_469 rfl rfl ⟨by decide, by decide, by decide +kernel⟩ ⟨Nat.le_of_ble_eq_true rfl, Nat.le_of_ble_eq_true rfl⟩) (va_recv hK hP (ci := 14) (q0 := 0) rfl rfl) (fun _ h9 => h9) (fun a9 h9 => hA a9 (Nat.le_trans hS.1 h9)) hG hS hP hK hD rfl hl.1 rfl (Nat.le_of_ble_eq_true rfl) dX10_request_25 ⟨Nat.le_of_ble_eq_true rfl, Nat.le_of_ble_eq_true rfl⟩ (fun r_12 u_12 H locs hw hz1 hk1 hP hS => ?_)
      have hP : va_P D vwCl (fz_WM k q f pa (va_up v 0 1)) H := hP
      have hD : va_D A (fz_WM k q f pa (va_up v 0 1)) := fz_Dsame hD rfl
      obtain rfl : r_12 = 1 := hw
      refine lv_if_ne (tgt := 83) hx hb dX10_request_28 (by decide) (fun c_13 => ?_) (fun c_13 => absurd c_13 (by decide))
      refine lv_iconst (v := 0) hx hb dX10_request_83 (by decide) ?_
      have hP : va_P D vwCl (fz_MO q (va_up v 0 1)) H := hP.sub [0] rfl
      exact fz_iret hx hb hr rfl hlocks hS dX10_request_84 (va_up v 0 1) (Or.inl ⟨rfl, rfl, (fq_61 p0 p1 hq_3)⟩) hP (Nat.le_of_ble_eq_true rfl) (Nat.le_of_ble_eq_true rfl)
  · skip
    refine lv_if_eq (tgt := 20) hx hb dX10_request_9 (by decide) (fun c_14 => ?_) (fun c_14 => absurd (by decide) c_14)
    refine lv_iconst (v := 1) hx hb dX10_request_20 (by decide) ?_
    refine lv_goto (tgt := 25) hx hb dX10_request_21 (by decide) ?_
    refine fz_cVi (As := [.int 1, .int 1]) (rest := []) S0 (m_fails1 l A D k q f pa v 1) (fz_cwV (C := RX10) 2 hts fm_553 fm_554 fm_555 fm_556 fm_469 rfl rfl ⟨by decide, by decide, by decide +kernel⟩ ⟨Nat.le_of_ble_eq_true rfl, Nat.le_of_ble_eq_true rfl⟩) (va_recv hK hP (ci := 14) (q0 := 0) rfl rfl) (fun _ h9 => h9) (fun a9 h9 => hA a9 (Nat.le_trans hS.1 h9)) hG hS hP hK hD rfl hl.1 rfl (Nat.le_of_ble_eq_true rfl) dX10_request_25 ⟨Nat.le_of_ble_eq_true rfl, Nat.le_of_ble_eq_true rfl⟩ (fun r_15 u_15 H locs hw hz1 hk1 hP hS => ?_)
    have hP : va_P D vwCl (fz_WM k q f pa (va_up v 0 1)) H := hP
    have hD : va_D A (fz_WM k q f pa (va_up v 0 1)) := fz_Dsame hD rfl
    obtain rfl : r_15 = 1 := hw
    refine lv_if_ne (tgt := 83) hx hb dX10_request_28 (by decide) (fun c_16 => ?_) (fun c_16 => absurd c_16 (by decide))
    refine lv_iconst (v := 0) hx hb dX10_request_83 (by decide) ?_
    have hP : va_P D vwCl (fz_MO q (va_up v 0 1)) H := hP.sub [0] rfl
    exact fz_iret hx hb hr rfl hlocks hS dX10_request_84 (va_up v 0 1) (Or.inl ⟨rfl, rfl, (fq_125 p0 p1 hq_1)⟩) hP (Nat.le_of_ble_eq_true rfl) (Nat.le_of_ble_eq_true rfl)

set_option maxHeartbeats 4000000 in
set_option maxRecDepth 100000 in
theorem m_p_requestPart (l : Launch) (A : Nat → Prop) (D : va_G) (k : Nat → ClassId) (q : Nat → Nat) (f : Nat → Nat → Int32) (pa : Nat → Option Nat) (v : Nat → Int32) (p0 p1 : Int32) (g_f_1_4 : f 1 4 = 0)  :
    Met l yX10_requestPart (fz_ws yX10_requestPart cX10_requestPart 3 (some .int)) { frames := 12, cells := 0, slots := 0, locals := 160 } (va_Pc [.ref (q 0), .int p0, .int p1] (fz_PC A D (fz_tys k) (fz_WM k q f pa v))) (fz_QI D A (fun (u : Nat → Int32) => fz_MO q u) (fun (r : Int32) (u : Nat → Int32) => (r = 0 ∧ u 0 = 1 ∧ True))) 0 0 A := by
  refine fz_of (by decide +kernel) (Nat.le_of_ble_eq_true rfl) ?_
  intro p e s m below meth c hx hb hr hml hown hlocks hts hin hA hP hK hD hG hS ls hl
  have hown : s.vm.findClass RX10 = some m.cls := hown
  have S0 : CallFix p m c cX10_requestPart 3 s [.ref (q 0), .int p0, .int p1].toArray (fz_ws yX10_requestPart cX10_requestPart 3 (some .int)) RX10 := ⟨hx, hb, hml, hown, hts⟩
  have hl : lv_has ls 3 [(0, .ref (q 0)), (1, .int p0), (2, .int p1)] := hl
  refine lv_aload_n hx hb dX10_requestPart_0 rfl (lv_at hl 0 rfl) ?_
  refine lv_iconst (v := 1) hx hb dX10_requestPart_1 (by decide) ?_
  refine lv_iload_n hx hb dX10_requestPart_2 rfl (lv_at hl 1 rfl) ?_
  refine lv_iconst (v := 0) hx hb dX10_requestPart_3 (by decide) ?_
  refine lv_aload_n hx hb dX10_requestPart_4 rfl (lv_at hl 0 rfl) ?_
  refine va_get (D := D) (ci := 14) (v := .ref (q 1)) (C := RX10) (T := TX10) (N := 22) hx hb hts (fun w9 h9 => fz_m (fin_X10 w9 h9)) hown hK hP 0 rfl rfl 1 (by decide) (hts _ (fz_m fm_462)) (fun _ h9 => h9) rfl dX10_requestPart_5 ?_
  refine lv_iconst (v := 4) hx hb dX10_requestPart_8 (by decide) ?_
  refine va_iald hx hb hK hP 1 0 rfl rfl (fz_vin (by decide)) dX10_requestPart_9 ?_
  refine fz_I (y := 0) g_f_1_4 ?_
  refine lv_iconst (v := 1) hx hb dX10_requestPart_10 (by decide) ?_
  refine lv_isub hx hb dX10_requestPart_11 ?_
  refine fz_I (y := (-1)) (by decide) ?_
  refine fz_cSi (As := [.int p0, .int 0, .int (-1)]) (rest := [.int 1, .ref (q 0)]) S0 (m_isBetween l A D k q f pa v p0 0 (-1)) (fz_cwS 3 hts fm_474 fm_475 fm_476 fm_469 rfl rfl ⟨by decide, by decide, by decide +kernel⟩ ⟨Nat.le_of_ble_eq_true rfl, Nat.le_of_ble_eq_true rfl⟩) (fun _ h9 => h9) (fun a9 h9 => hA a9 (Nat.le_trans hS.1 h9)) hG hS hP hK hD rfl hl.1 rfl (Nat.le_of_ble_eq_true rfl) dX10_requestPart_12 ⟨Nat.le_of_ble_eq_true rfl, Nat.le_of_ble_eq_true rfl⟩ (fun r_1 u_1 H locs hw hz1 hk1 hP hS => ?_)
  have hP : va_P D vwCl (fz_WM k q f pa v) H := hP
  rcases (show (r_1 = 1 ∧ (0 ≤ p0 ∧ p0 ≤ (-1))) ∨ (r_1 = 0 ∧ ¬ ((0 ≤ p0 ∧ p0 ≤ (-1)))) from hw) with ⟨rfl, hq_1⟩ | ⟨rfl, hq_1⟩
  · skip
    exact (fq_113 p0 hq_1).elim
  · skip
    refine lv_if_ne (tgt := 22) hx hb dX10_requestPart_15 (by decide) (fun c_2 => absurd (by decide) c_2) (fun c_2 => ?_)
    refine lv_iconst (v := 1) hx hb dX10_requestPart_18 (by decide) ?_
    refine lv_goto (tgt := 23) hx hb dX10_requestPart_19 (by decide) ?_
    refine fz_cVi (As := [.int 1, .int 1]) (rest := []) S0 (m_fails1 l A D k q f pa v 1) (fz_cwV (C := RX10) 2 hts fm_553 fm_554 fm_555 fm_556 fm_469 rfl rfl ⟨by decide, by decide, by decide +kernel⟩ ⟨Nat.le_of_ble_eq_true rfl, Nat.le_of_ble_eq_true rfl⟩) (va_recv hK hP (ci := 14) (q0 := 0) rfl rfl) (fun _ h9 => h9) (fun a9 h9 => hA a9 (Nat.le_trans hS.1 h9)) hG hS hP hK hD rfl hl.1 rfl (Nat.le_of_ble_eq_true rfl) dX10_requestPart_23 ⟨Nat.le_of_ble_eq_true rfl, Nat.le_of_ble_eq_true rfl⟩ (fun r_3 u_3 H locs hw hz1 hk1 hP hS => ?_)
    have hP : va_P D vwCl (fz_WM k q f pa (va_up v 0 1)) H := hP
    have hD : va_D A (fz_WM k q f pa (va_up v 0 1)) := fz_Dsame hD rfl
    obtain rfl : r_3 = 1 := hw
    refine lv_if_ne (tgt := 51) hx hb dX10_requestPart_26 (by decide) (fun c_4 => ?_) (fun c_4 => absurd c_4 (by decide))
    refine lv_iconst (v := 0) hx hb dX10_requestPart_51 (by decide) ?_
    have hP : va_P D vwCl (fz_MO q (va_up v 0 1)) H := hP.sub [0] rfl
    exact fz_iret hx hb hr rfl hlocks hS dX10_requestPart_52 (va_up v 0 1) ⟨rfl, rfl, trivial⟩ hP (Nat.le_of_ble_eq_true rfl) (Nat.le_of_ble_eq_true rfl)

set_option maxHeartbeats 4000000 in
set_option maxRecDepth 100000 in
theorem m_p_cancel (l : Launch) (A : Nat → Prop) (D : va_G) (k : Nat → ClassId) (q : Nat → Nat) (f : Nat → Nat → Int32) (pa : Nat → Option Nat) (v : Nat → Int32) (p0 : Int32) (g_f_1_4 : f 1 4 = 0)  :
    Met l yX10_cancel (fz_ws yX10_cancel cX10_cancel 2 (some .int)) { frames := 12, cells := 0, slots := 0, locals := 160 } (va_Pc [.ref (q 0), .int p0] (fz_PC A D (fz_tys k) (fz_WM k q f pa v))) (fz_QI D A (fun (u : Nat → Int32) => fz_MO q u) (fun (r : Int32) (u : Nat → Int32) => (r = 0 ∧ u 0 = 1 ∧ True))) 0 0 A := by
  refine fz_of (by decide +kernel) (Nat.le_of_ble_eq_true rfl) ?_
  intro p e s m below meth c hx hb hr hml hown hlocks hts hin hA hP hK hD hG hS ls hl
  have hown : s.vm.findClass RX10 = some m.cls := hown
  have S0 : CallFix p m c cX10_cancel 2 s [.ref (q 0), .int p0].toArray (fz_ws yX10_cancel cX10_cancel 2 (some .int)) RX10 := ⟨hx, hb, hml, hown, hts⟩
  have hl : lv_has ls 2 [(0, .ref (q 0)), (1, .int p0)] := hl
  refine lv_aload_n hx hb dX10_cancel_0 rfl (lv_at hl 0 rfl) ?_
  refine lv_iconst (v := 1) hx hb dX10_cancel_1 (by decide) ?_
  refine lv_iload_n hx hb dX10_cancel_2 rfl (lv_at hl 1 rfl) ?_
  refine lv_iconst (v := 0) hx hb dX10_cancel_3 (by decide) ?_
  refine lv_aload_n hx hb dX10_cancel_4 rfl (lv_at hl 0 rfl) ?_
  refine va_get (D := D) (ci := 14) (v := .ref (q 1)) (C := RX10) (T := TX10) (N := 22) hx hb hts (fun w9 h9 => fz_m (fin_X10 w9 h9)) hown hK hP 0 rfl rfl 1 (by decide) (hts _ (fz_m fm_462)) (fun _ h9 => h9) rfl dX10_cancel_5 ?_
  refine lv_iconst (v := 4) hx hb dX10_cancel_8 (by decide) ?_
  refine va_iald hx hb hK hP 1 0 rfl rfl (fz_vin (by decide)) dX10_cancel_9 ?_
  refine fz_I (y := 0) g_f_1_4 ?_
  refine lv_iconst (v := 1) hx hb dX10_cancel_10 (by decide) ?_
  refine lv_isub hx hb dX10_cancel_11 ?_
  refine fz_I (y := (-1)) (by decide) ?_
  refine fz_cSi (As := [.int p0, .int 0, .int (-1)]) (rest := [.int 1, .ref (q 0)]) S0 (m_isBetween l A D k q f pa v p0 0 (-1)) (fz_cwS 3 hts fm_474 fm_475 fm_476 fm_469 rfl rfl ⟨by decide, by decide, by decide +kernel⟩ ⟨Nat.le_of_ble_eq_true rfl, Nat.le_of_ble_eq_true rfl⟩) (fun _ h9 => h9) (fun a9 h9 => hA a9 (Nat.le_trans hS.1 h9)) hG hS hP hK hD rfl hl.1 rfl (Nat.le_of_ble_eq_true rfl) dX10_cancel_12 ⟨Nat.le_of_ble_eq_true rfl, Nat.le_of_ble_eq_true rfl⟩ (fun r_1 u_1 H locs hw hz1 hk1 hP hS => ?_)
  have hP : va_P D vwCl (fz_WM k q f pa v) H := hP
  rcases (show (r_1 = 1 ∧ (0 ≤ p0 ∧ p0 ≤ (-1))) ∨ (r_1 = 0 ∧ ¬ ((0 ≤ p0 ∧ p0 ≤ (-1)))) from hw) with ⟨rfl, hq_1⟩ | ⟨rfl, hq_1⟩
  · skip
    exact (fq_113 p0 hq_1).elim
  · skip
    refine lv_if_ne (tgt := 22) hx hb dX10_cancel_15 (by decide) (fun c_2 => absurd (by decide) c_2) (fun c_2 => ?_)
    refine lv_iconst (v := 1) hx hb dX10_cancel_18 (by decide) ?_
    refine lv_goto (tgt := 23) hx hb dX10_cancel_19 (by decide) ?_
    refine fz_cVi (As := [.int 1, .int 1]) (rest := []) S0 (m_fails1 l A D k q f pa v 1) (fz_cwV (C := RX10) 2 hts fm_553 fm_554 fm_555 fm_556 fm_469 rfl rfl ⟨by decide, by decide, by decide +kernel⟩ ⟨Nat.le_of_ble_eq_true rfl, Nat.le_of_ble_eq_true rfl⟩) (va_recv hK hP (ci := 14) (q0 := 0) rfl rfl) (fun _ h9 => h9) (fun a9 h9 => hA a9 (Nat.le_trans hS.1 h9)) hG hS hP hK hD rfl hl.1 rfl (Nat.le_of_ble_eq_true rfl) dX10_cancel_23 ⟨Nat.le_of_ble_eq_true rfl, Nat.le_of_ble_eq_true rfl⟩ (fun r_3 u_3 H locs hw hz1 hk1 hP hS => ?_)
    have hP : va_P D vwCl (fz_WM k q f pa (va_up v 0 1)) H := hP
    have hD : va_D A (fz_WM k q f pa (va_up v 0 1)) := fz_Dsame hD rfl
    obtain rfl : r_3 = 1 := hw
    refine lv_if_eq (tgt := 31) hx hb dX10_cancel_26 (by decide) (fun c_4 => absurd c_4 (by decide)) (fun c_4 => ?_)
    refine lv_iconst (v := 0) hx hb dX10_cancel_29 (by decide) ?_
    have hP : va_P D vwCl (fz_MO q (va_up v 0 1)) H := hP.sub [0] rfl
    exact fz_iret hx hb hr rfl hlocks hS dX10_cancel_30 (va_up v 0 1) ⟨rfl, rfl, trivial⟩ hP (Nat.le_of_ble_eq_true rfl) (Nat.le_of_ble_eq_true rfl)

set_option maxHeartbeats 4000000 in
set_option maxRecDepth 100000 in
theorem m_p_review (l : Launch) (A : Nat → Prop) (D : va_G) (k : Nat → ClassId) (q : Nat → Nat) (f : Nat → Nat → Int32) (pa : Nat → Option Nat) (v : Nat → Int32) (g_v_5 : v 5 = 0) (g_pb_0 : pa 0 = some (q 7)) (g_f_1_4 : f 1 4 = 0)  :
    Met l yX10_review (fz_ws yX10_review cX10_review 5 (some .int)) { frames := 48, cells := 0, slots := 0, locals := 640 } (va_Pc [.ref (q 0)] (fz_PC A D (fz_tys k) (fz_WM k q f pa v))) (fz_QI D A (fun (u : Nat → Int32) => fz_MO q u) (fun (r : Int32) (u : Nat → Int32) => (r = 0 ∧ u 0 = 0 ∧ True))) 0 0 A := by
  refine fz_of (by decide +kernel) (Nat.le_of_ble_eq_true rfl) ?_
  intro p e s m below meth c hx hb hr hml hown hlocks hts hin hA hP hK hD hG hS ls hl
  have hown : s.vm.findClass RX10 = some m.cls := hown
  have S0 : CallFix p m c cX10_review 5 s [.ref (q 0)].toArray (fz_ws yX10_review cX10_review 5 (some .int)) RX10 := ⟨hx, hb, hml, hown, hts⟩
  have hl : lv_has ls 5 [(0, .ref (q 0))] := hl
  refine lv_aload_n hx hb dX10_review_0 rfl (lv_at hl 0 rfl) ?_
  refine lv_iconst (v := 0) hx hb dX10_review_1 (by decide) ?_
  refine va_put (D := D) (ci := 14) (v := .int 0) (ty := .int) (C := RX10) (T := TX10) (N := 22) hx hb hts (fun w9 h9 => fz_m (fin_X10 w9 h9)) tyX10 tyX10_ok nmX10 hown hK hP hD hS 0 rfl rfl 0 (by decide) (hts _ (fz_m fm_463)) (fun _ h9 => h9) rfl (by decide +kernel) rfl rfl (Nat.le_of_ble_eq_true rfl) dX10_review_2 (fun H locs hP hD hS => ?_)
  have hP : va_P D vwCl (fz_WM k q f pa (va_up v 0 0)) H := hP
  have hD : va_D A (fz_WM k q f pa (va_up v 0 0)) := hD
  refine lv_aload_n hx hb dX10_review_5 rfl (lv_at hl 0 rfl) ?_
  refine fz_cVv (As := []) (rest := []) S0 (m_remember l A D k q f pa (va_up v 0 0) g_v_5 g_pb_0) (fz_cwV (C := RX10) 0 hts fm_561 fm_562 fm_563 fm_564 fm_469 rfl rfl ⟨by decide, by decide, by decide +kernel⟩ ⟨Nat.le_of_ble_eq_true rfl, Nat.le_of_ble_eq_true rfl⟩) (va_recv hK hP (ci := 14) (q0 := 0) rfl rfl) (fun _ h9 => h9) (fun a9 h9 => hA a9 (Nat.le_trans hS.1 h9)) hG hS hP hK hD rfl hl.1 rfl (Nat.le_of_ble_eq_true rfl) dX10_review_6 ⟨Nat.le_of_ble_eq_true rfl, Nat.le_of_ble_eq_true rfl⟩ (fun u_1 H locs hw hz1 hk1 hP hS => ?_)
  have hP : va_P D vwCl (fz_WM k q (va_up f 7 u_1) pa (va_up (va_up v 0 0) 5 1)) H := hP
  have hD : va_D A (fz_WM k q (va_up f 7 u_1) pa (va_up (va_up v 0 0) 5 1)) := fz_Dsame hD rfl
  refine lv_iconst (v := 0) hx hb dX10_review_9 (by decide) ?_
  refine lv_istore_n (lv' := [(1, .int 0), (0, .ref (q 0))]) hx hb dX10_review_10 rfl hl (by decide) rfl (fun ls hl => ?_)
  refine lv_aload_n hx hb dX10_review_11 rfl (lv_at hl 1 rfl) ?_
  refine va_get (D := D) (ci := 14) (v := .ref (q 1)) (C := RX10) (T := TX10) (N := 22) hx hb hts (fun w9 h9 => fz_m (fin_X10 w9 h9)) hown hK hP 0 rfl rfl 1 (by decide) (hts _ (fz_m fm_462)) (fun _ h9 => h9) rfl dX10_review_12 ?_
  refine lv_iconst (v := 4) hx hb dX10_review_15 (by decide) ?_
  refine va_iald hx hb hK hP 1 0 rfl rfl (fz_vin (by decide)) dX10_review_16 ?_
  refine fz_I (y := 0) g_f_1_4 ?_
  refine lv_iconst (v := 1) hx hb dX10_review_17 (by decide) ?_
  refine lv_isub hx hb dX10_review_18 ?_
  refine fz_I (y := (-1)) (by decide) ?_
  refine lv_istore_n (lv' := [(2, .int (-1)), (1, .int 0), (0, .ref (q 0))]) hx hb dX10_review_19 rfl hl (by decide) rfl (fun ls hl => ?_)
  refine lv_iload_n hx hb dX10_review_20 rfl (lv_at hl 0 rfl) ?_
  refine lv_if_lt (tgt := 98) hx hb dX10_review_21 (by decide) (fun c_2 => ?_) (fun c_2 => absurd (by decide) c_2)
  refine lv_iload_n hx hb dX10_review_98 rfl (lv_at hl 1 rfl) ?_
  have hP : va_P D vwCl (fz_MO q (va_up (va_up v 0 0) 5 1)) H := hP.sub [0] rfl
  exact fz_iret hx hb hr rfl hlocks hS dX10_review_99 (va_up (va_up v 0 0) 5 1) ⟨rfl, rfl, trivial⟩ hP (Nat.le_of_ble_eq_true rfl) (Nat.le_of_ble_eq_true rfl)

set_option maxHeartbeats 4000000 in
set_option maxRecDepth 100000 in
theorem m_p_account (l : Launch) (A : Nat → Prop) (D : va_G) (k : Nat → ClassId) (q : Nat → Nat) (f : Nat → Nat → Int32) (pa : Nat → Option Nat) (v : Nat → Int32) (p0 : Int32) (g_f_1_0 : f 1 0 = 1) (g_f_1_7 : f 1 7 = 1) (g_f_1_10 : f 1 10 = 0) (g_f_1_2 : f 1 2 = 0) (g_f_1_3 : f 1 3 = 0) (g_f_1_4 : f 1 4 = 0) (g_f_1_6 : f 1 6 = 0)  :
    Met l yX10_account (fz_ws yX10_account cX10_account 2 (some .int)) { frames := 48, cells := 0, slots := 0, locals := 640 } (va_Pc [.ref (q 0), .int p0] (fz_PC A D (fz_tys k) (fz_WM k q f pa v))) (fz_QI D A (fun (u : Nat → Int32) => fz_MO q u) (fun (r : Int32) (u : Nat → Int32) => (r = 0 ∧ u 0 = 1 ∧ ¬ ((0 ≤ p0 ∧ p0 ≤ 9))) ∨ (r = 1 ∧ u 0 = 0 ∧ p0 = 0) ∨ (r = 0 ∧ u 0 = 0 ∧ (1 ≤ p0 ∧ p0 ≤ 9)))) 0 0 A := by
  refine fz_of (by decide +kernel) (Nat.le_of_ble_eq_true rfl) ?_
  intro p e s m below meth c hx hb hr hml hown hlocks hts hin hA hP hK hD hG hS ls hl
  have hown : s.vm.findClass RX10 = some m.cls := hown
  have S0 : CallFix p m c cX10_account 2 s [.ref (q 0), .int p0].toArray (fz_ws yX10_account cX10_account 2 (some .int)) RX10 := ⟨hx, hb, hml, hown, hts⟩
  have hl : lv_has ls 2 [(0, .ref (q 0)), (1, .int p0)] := hl
  refine lv_aload_n hx hb dX10_account_0 rfl (lv_at hl 0 rfl) ?_
  refine lv_iconst (v := 1) hx hb dX10_account_1 (by decide) ?_
  refine lv_iload_n hx hb dX10_account_2 rfl (lv_at hl 1 rfl) ?_
  refine lv_iconst (v := 0) hx hb dX10_account_3 (by decide) ?_
  refine lv_bipush (v := 9) hx hb dX10_account_4 (by decide) ?_
  refine fz_cSi (As := [.int p0, .int 0, .int 9]) (rest := [.int 1, .ref (q 0)]) S0 (m_isBetween l A D k q f pa v p0 0 9) (fz_cwS 3 hts fm_474 fm_475 fm_476 fm_469 rfl rfl ⟨by decide, by decide, by decide +kernel⟩ ⟨Nat.le_of_ble_eq_true rfl, Nat.le_of_ble_eq_true rfl⟩) (fun _ h9 => h9) (fun a9 h9 => hA a9 (Nat.le_trans hS.1 h9)) hG hS hP hK hD rfl hl.1 rfl (Nat.le_of_ble_eq_true rfl) dX10_account_6 ⟨Nat.le_of_ble_eq_true rfl, Nat.le_of_ble_eq_true rfl⟩ (fun r_1 u_1 H locs hw hz1 hk1 hP hS => ?_)
  have hP : va_P D vwCl (fz_WM k q f pa v) H := hP
  rcases (show (r_1 = 1 ∧ (0 ≤ p0 ∧ p0 ≤ 9)) ∨ (r_1 = 0 ∧ ¬ ((0 ≤ p0 ∧ p0 ≤ 9))) from hw) with ⟨rfl, hq_1⟩ | ⟨rfl, hq_1⟩
  · skip
    refine lv_if_ne (tgt := 16) hx hb dX10_account_9 (by decide) (fun c_2 => ?_) (fun c_2 => absurd c_2 (by decide))
    refine lv_iconst (v := 0) hx hb dX10_account_16 (by decide) ?_
    refine fz_cVi (As := [.int 1, .int 0]) (rest := []) S0 (m_fails0 l A D k q f pa v 1) (fz_cwV (C := RX10) 2 hts fm_553 fm_554 fm_555 fm_556 fm_469 rfl rfl ⟨by decide, by decide, by decide +kernel⟩ ⟨Nat.le_of_ble_eq_true rfl, Nat.le_of_ble_eq_true rfl⟩) (va_recv hK hP (ci := 14) (q0 := 0) rfl rfl) (fun _ h9 => h9) (fun a9 h9 => hA a9 (Nat.le_trans hS.1 h9)) hG hS hP hK hD rfl hl.1 rfl (Nat.le_of_ble_eq_true rfl) dX10_account_17 ⟨Nat.le_of_ble_eq_true rfl, Nat.le_of_ble_eq_true rfl⟩ (fun r_3 u_3 H locs hw hz1 hk1 hP hS => ?_)
    have hP : va_P D vwCl (fz_WM k q f pa (va_up v 0 0)) H := hP
    have hD : va_D A (fz_WM k q f pa (va_up v 0 0)) := fz_Dsame hD rfl
    obtain rfl : r_3 = 0 := hw
    refine lv_if_eq (tgt := 25) hx hb dX10_account_20 (by decide) (fun c_4 => ?_) (fun c_4 => absurd (by decide) c_4)
    refine lv_iload_n hx hb dX10_account_25 rfl (lv_at hl 1 rfl) ?_
    by_cases c_5_0 : p0 = 0
    · subst c_5_0
      refine lv_tableIn (off := 50) (tgt := 76) hx hb dX10_account_26 (by decide) (by decide) rfl (by decide) ?_
      refine lv_aload_n hx hb dX10_account_76 rfl (lv_at hl 0 rfl) ?_
      refine lv_iconst (v := 0) hx hb dX10_account_77 (by decide) ?_
      refine fz_cVi (As := [.int 0]) (rest := []) S0 (m_countBelow l A D k q f pa (va_up v 0 0) g_f_1_0 g_f_1_7) (fz_cwV (C := RX10) 1 hts fm_573 fm_574 fm_575 fm_576 fm_469 rfl rfl ⟨by decide, by decide, by decide +kernel⟩ ⟨Nat.le_of_ble_eq_true rfl, Nat.le_of_ble_eq_true rfl⟩) (va_recv hK hP (ci := 14) (q0 := 0) rfl rfl) (fun _ h9 => h9) (fun a9 h9 => hA a9 (Nat.le_trans hS.1 h9)) hG hS hP hK hD rfl hl.1 rfl (Nat.le_of_ble_eq_true rfl) dX10_account_78 ⟨Nat.le_of_ble_eq_true rfl, Nat.le_of_ble_eq_true rfl⟩ (fun r_6 u_6 H locs hw hz1 hk1 hP hS => ?_)
      have hP : va_P D vwCl (fz_WM k q f pa (va_up v 0 0)) H := hP
      obtain rfl : r_6 = 0 := hw
      refine lv_iconst (v := 1) hx hb dX10_account_81 (by decide) ?_
      refine lv_iadd hx hb dX10_account_82 ?_
      refine fz_I (y := 1) (by decide) ?_
      have hP : va_P D vwCl (fz_MO q (va_up v 0 0)) H := hP.sub [0] rfl
      exact fz_iret hx hb hr rfl hlocks hS dX10_account_83 (va_up v 0 0) (Or.inr (Or.inl ⟨rfl, rfl, (fq_3 )⟩)) hP (Nat.le_of_ble_eq_true rfl) (Nat.le_of_ble_eq_true rfl)
    by_cases c_5_1 : p0 = 1
    · subst c_5_1
      refine lv_tableIn (off := 58) (tgt := 84) hx hb dX10_account_26 (by decide) (by decide) rfl (by decide) ?_
      refine lv_aload_n hx hb dX10_account_84 rfl (lv_at hl 0 rfl) ?_
      refine lv_iconst (v := 0) hx hb dX10_account_85 (by decide) ?_
      refine fz_cVi (As := [.int 0]) (rest := []) S0 (m_countUnits0 l A D k q f pa (va_up v 0 0) g_f_1_0 g_f_1_7 g_f_1_10) (fz_cwV (C := RX10) 1 hts fm_608 fm_609 fm_610 fm_611 fm_469 rfl rfl ⟨by decide, by decide, by decide +kernel⟩ ⟨Nat.le_of_ble_eq_true rfl, Nat.le_of_ble_eq_true rfl⟩) (va_recv hK hP (ci := 14) (q0 := 0) rfl rfl) (fun _ h9 => h9) (fun a9 h9 => hA a9 (Nat.le_trans hS.1 h9)) hG hS hP hK hD rfl hl.1 rfl (Nat.le_of_ble_eq_true rfl) dX10_account_86 ⟨Nat.le_of_ble_eq_true rfl, Nat.le_of_ble_eq_true rfl⟩ (fun r_7 u_7 H locs hw hz1 hk1 hP hS => ?_)
      have hP : va_P D vwCl (fz_WM k q f pa (va_up v 0 0)) H := hP
      obtain rfl : r_7 = 0 := hw
      have hP : va_P D vwCl (fz_MO q (va_up v 0 0)) H := hP.sub [0] rfl
      exact fz_iret hx hb hr rfl hlocks hS dX10_account_89 (va_up v 0 0) (Or.inr (Or.inr ⟨rfl, rfl, (fq_65 )⟩)) hP (Nat.le_of_ble_eq_true rfl) (Nat.le_of_ble_eq_true rfl)
    by_cases c_5_2 : p0 = 2
    · subst c_5_2
      refine lv_tableIn (off := 64) (tgt := 90) hx hb dX10_account_26 (by decide) (by decide) rfl (by decide) ?_
      refine lv_aload_n hx hb dX10_account_90 rfl (lv_at hl 0 rfl) ?_
      refine lv_iconst (v := 0) hx hb dX10_account_91 (by decide) ?_
      refine fz_cVi (As := [.int 0]) (rest := []) S0 (m_sumPages l A D k q f pa (va_up v 0 0) g_f_1_0 g_f_1_7 g_f_1_10) (fz_cwV (C := RX10) 1 hts fm_577 fm_578 fm_579 fm_580 fm_469 rfl rfl ⟨by decide, by decide, by decide +kernel⟩ ⟨Nat.le_of_ble_eq_true rfl, Nat.le_of_ble_eq_true rfl⟩) (va_recv hK hP (ci := 14) (q0 := 0) rfl rfl) (fun _ h9 => h9) (fun a9 h9 => hA a9 (Nat.le_trans hS.1 h9)) hG hS hP hK hD rfl hl.1 rfl (Nat.le_of_ble_eq_true rfl) dX10_account_92 ⟨Nat.le_of_ble_eq_true rfl, Nat.le_of_ble_eq_true rfl⟩ (fun r_8 u_8 H locs hw hz1 hk1 hP hS => ?_)
      have hP : va_P D vwCl (fz_WM k q f pa (va_up v 0 0)) H := hP
      obtain rfl : r_8 = 0 := hw
      have hP : va_P D vwCl (fz_MO q (va_up v 0 0)) H := hP.sub [0] rfl
      exact fz_iret hx hb hr rfl hlocks hS dX10_account_95 (va_up v 0 0) (Or.inr (Or.inr ⟨rfl, rfl, (fq_66 )⟩)) hP (Nat.le_of_ble_eq_true rfl) (Nat.le_of_ble_eq_true rfl)
    by_cases c_5_3 : p0 = 3
    · subst c_5_3
      refine lv_tableIn (off := 70) (tgt := 96) hx hb dX10_account_26 (by decide) (by decide) rfl (by decide) ?_
      refine lv_aload_n hx hb dX10_account_96 rfl (lv_at hl 0 rfl) ?_
      refine fz_cVi (As := []) (rest := []) S0 (m_countContainers l A D k q f pa (va_up v 0 0) g_f_1_2) (fz_cwV (C := RX10) 0 hts fm_517 fm_518 fm_519 fm_520 fm_469 rfl rfl ⟨by decide, by decide, by decide +kernel⟩ ⟨Nat.le_of_ble_eq_true rfl, Nat.le_of_ble_eq_true rfl⟩) (va_recv hK hP (ci := 14) (q0 := 0) rfl rfl) (fun _ h9 => h9) (fun a9 h9 => hA a9 (Nat.le_trans hS.1 h9)) hG hS hP hK hD rfl hl.1 rfl (Nat.le_of_ble_eq_true rfl) dX10_account_97 ⟨Nat.le_of_ble_eq_true rfl, Nat.le_of_ble_eq_true rfl⟩ (fun r_9 u_9 H locs hw hz1 hk1 hP hS => ?_)
      have hP : va_P D vwCl (fz_WM k q f pa (va_up v 0 0)) H := hP
      obtain rfl : r_9 = 0 := hw
      have hP : va_P D vwCl (fz_MO q (va_up v 0 0)) H := hP.sub [0] rfl
      exact fz_iret hx hb hr rfl hlocks hS dX10_account_100 (va_up v 0 0) (Or.inr (Or.inr ⟨rfl, rfl, (fq_67 )⟩)) hP (Nat.le_of_ble_eq_true rfl) (Nat.le_of_ble_eq_true rfl)
    by_cases c_5_4 : p0 = 4
    · subst c_5_4
      refine lv_tableIn (off := 75) (tgt := 101) hx hb dX10_account_26 (by decide) (by decide) rfl (by decide) ?_
      refine lv_aload_n hx hb dX10_account_101 rfl (lv_at hl 0 rfl) ?_
      refine lv_iconst (v := 1) hx hb dX10_account_102 (by decide) ?_
      refine fz_cVi (As := [.int 1]) (rest := []) S0 (m_countUnits1 l A D k q f pa (va_up v 0 0) g_f_1_0 g_f_1_7 g_f_1_10) (fz_cwV (C := RX10) 1 hts fm_608 fm_609 fm_610 fm_611 fm_469 rfl rfl ⟨by decide, by decide, by decide +kernel⟩ ⟨Nat.le_of_ble_eq_true rfl, Nat.le_of_ble_eq_true rfl⟩) (va_recv hK hP (ci := 14) (q0 := 0) rfl rfl) (fun _ h9 => h9) (fun a9 h9 => hA a9 (Nat.le_trans hS.1 h9)) hG hS hP hK hD rfl hl.1 rfl (Nat.le_of_ble_eq_true rfl) dX10_account_103 ⟨Nat.le_of_ble_eq_true rfl, Nat.le_of_ble_eq_true rfl⟩ (fun r_10 u_10 H locs hw hz1 hk1 hP hS => ?_)
      have hP : va_P D vwCl (fz_WM k q f pa (va_up v 0 0)) H := hP
      obtain rfl : r_10 = 0 := hw
      have hP : va_P D vwCl (fz_MO q (va_up v 0 0)) H := hP.sub [0] rfl
      exact fz_iret hx hb hr rfl hlocks hS dX10_account_106 (va_up v 0 0) (Or.inr (Or.inr ⟨rfl, rfl, (fq_68 )⟩)) hP (Nat.le_of_ble_eq_true rfl) (Nat.le_of_ble_eq_true rfl)
    by_cases c_5_5 : p0 = 5
    · subst c_5_5
      refine lv_tableIn (off := 81) (tgt := 107) hx hb dX10_account_26 (by decide) (by decide) rfl (by decide) ?_
      refine lv_aload_n hx hb dX10_account_107 rfl (lv_at hl 0 rfl) ?_
      refine fz_cVi (As := []) (rest := []) S0 (m_countCopiesThere l A D k q f pa (va_up v 0 0) g_f_1_3) (fz_cwV (C := RX10) 0 hts fm_612 fm_613 fm_614 fm_615 fm_469 rfl rfl ⟨by decide, by decide, by decide +kernel⟩ ⟨Nat.le_of_ble_eq_true rfl, Nat.le_of_ble_eq_true rfl⟩) (va_recv hK hP (ci := 14) (q0 := 0) rfl rfl) (fun _ h9 => h9) (fun a9 h9 => hA a9 (Nat.le_trans hS.1 h9)) hG hS hP hK hD rfl hl.1 rfl (Nat.le_of_ble_eq_true rfl) dX10_account_108 ⟨Nat.le_of_ble_eq_true rfl, Nat.le_of_ble_eq_true rfl⟩ (fun r_11 u_11 H locs hw hz1 hk1 hP hS => ?_)
      have hP : va_P D vwCl (fz_WM k q f pa (va_up v 0 0)) H := hP
      obtain rfl : r_11 = 0 := hw
      have hP : va_P D vwCl (fz_MO q (va_up v 0 0)) H := hP.sub [0] rfl
      exact fz_iret hx hb hr rfl hlocks hS dX10_account_111 (va_up v 0 0) (Or.inr (Or.inr ⟨rfl, rfl, (fq_69 )⟩)) hP (Nat.le_of_ble_eq_true rfl) (Nat.le_of_ble_eq_true rfl)
    by_cases c_5_6 : p0 = 6
    · subst c_5_6
      refine lv_tableIn (off := 86) (tgt := 112) hx hb dX10_account_26 (by decide) (by decide) rfl (by decide) ?_
      refine lv_aload_n hx hb dX10_account_112 rfl (lv_at hl 0 rfl) ?_
      refine va_get (D := D) (ci := 14) (v := .ref (q 1)) (C := RX10) (T := TX10) (N := 22) hx hb hts (fun w9 h9 => fz_m (fin_X10 w9 h9)) hown hK hP 0 rfl rfl 1 (by decide) (hts _ (fz_m fm_462)) (fun _ h9 => h9) rfl dX10_account_113 ?_
      refine lv_iconst (v := 4) hx hb dX10_account_116 (by decide) ?_
      refine va_iald hx hb hK hP 1 0 rfl rfl (fz_vin (by decide)) dX10_account_117 ?_
      refine fz_I (y := 0) g_f_1_4 ?_
      have hP : va_P D vwCl (fz_MO q (va_up v 0 0)) H := hP.sub [0] rfl
      exact fz_iret hx hb hr rfl hlocks hS dX10_account_118 (va_up v 0 0) (Or.inr (Or.inr ⟨rfl, rfl, (fq_70 )⟩)) hP (Nat.le_of_ble_eq_true rfl) (Nat.le_of_ble_eq_true rfl)
    by_cases c_5_7 : p0 = 7
    · subst c_5_7
      refine lv_tableIn (off := 93) (tgt := 119) hx hb dX10_account_26 (by decide) (by decide) rfl (by decide) ?_
      refine lv_aload_n hx hb dX10_account_119 rfl (lv_at hl 0 rfl) ?_
      refine lv_iconst (v := 1) hx hb dX10_account_120 (by decide) ?_
      refine fz_cVi (As := [.int 1]) (rest := []) S0 (m_countShown1 l A D k q f pa (va_up v 0 0) g_f_1_4) (fz_cwV (C := RX10) 1 hts fm_616 fm_617 fm_618 fm_619 fm_469 rfl rfl ⟨by decide, by decide, by decide +kernel⟩ ⟨Nat.le_of_ble_eq_true rfl, Nat.le_of_ble_eq_true rfl⟩) (va_recv hK hP (ci := 14) (q0 := 0) rfl rfl) (fun _ h9 => h9) (fun a9 h9 => hA a9 (Nat.le_trans hS.1 h9)) hG hS hP hK hD rfl hl.1 rfl (Nat.le_of_ble_eq_true rfl) dX10_account_121 ⟨Nat.le_of_ble_eq_true rfl, Nat.le_of_ble_eq_true rfl⟩ (fun r_12 u_12 H locs hw hz1 hk1 hP hS => ?_)
      have hP : va_P D vwCl (fz_WM k q f pa (va_up v 0 0)) H := hP
      obtain rfl : r_12 = 0 := hw
      have hP : va_P D vwCl (fz_MO q (va_up v 0 0)) H := hP.sub [0] rfl
      exact fz_iret hx hb hr rfl hlocks hS dX10_account_124 (va_up v 0 0) (Or.inr (Or.inr ⟨rfl, rfl, (fq_71 )⟩)) hP (Nat.le_of_ble_eq_true rfl) (Nat.le_of_ble_eq_true rfl)
    by_cases c_5_8 : p0 = 8
    · subst c_5_8
      refine lv_tableIn (off := 99) (tgt := 125) hx hb dX10_account_26 (by decide) (by decide) rfl (by decide) ?_
      refine lv_aload_n hx hb dX10_account_125 rfl (lv_at hl 0 rfl) ?_
      refine lv_iconst (v := 0) hx hb dX10_account_126 (by decide) ?_
      refine fz_cVi (As := [.int 0]) (rest := []) S0 (m_countShown0 l A D k q f pa (va_up v 0 0) g_f_1_4) (fz_cwV (C := RX10) 1 hts fm_616 fm_617 fm_618 fm_619 fm_469 rfl rfl ⟨by decide, by decide, by decide +kernel⟩ ⟨Nat.le_of_ble_eq_true rfl, Nat.le_of_ble_eq_true rfl⟩) (va_recv hK hP (ci := 14) (q0 := 0) rfl rfl) (fun _ h9 => h9) (fun a9 h9 => hA a9 (Nat.le_trans hS.1 h9)) hG hS hP hK hD rfl hl.1 rfl (Nat.le_of_ble_eq_true rfl) dX10_account_127 ⟨Nat.le_of_ble_eq_true rfl, Nat.le_of_ble_eq_true rfl⟩ (fun r_13 u_13 H locs hw hz1 hk1 hP hS => ?_)
      have hP : va_P D vwCl (fz_WM k q f pa (va_up v 0 0)) H := hP
      obtain rfl : r_13 = 0 := hw
      have hP : va_P D vwCl (fz_MO q (va_up v 0 0)) H := hP.sub [0] rfl
      exact fz_iret hx hb hr rfl hlocks hS dX10_account_130 (va_up v 0 0) (Or.inr (Or.inr ⟨rfl, rfl, (fq_72 )⟩)) hP (Nat.le_of_ble_eq_true rfl) (Nat.le_of_ble_eq_true rfl)
    obtain rfl : p0 = 9 := (fq_73 p0 hq_1 c_5_0 c_5_1 c_5_2 c_5_3 c_5_4 c_5_5 c_5_6 c_5_7 c_5_8)
    refine lv_tableOut (tgt := 131) hx hb dX10_account_26 (by decide) (by decide) ?_
    refine lv_aload_n hx hb dX10_account_131 rfl (lv_at hl 0 rfl) ?_
    refine fz_cVi (As := []) (rest := []) S0 (m_countMarks l A D k q f pa (va_up v 0 0) g_f_1_6) (fz_cwV (C := RX10) 0 hts fm_620 fm_621 fm_622 fm_623 fm_469 rfl rfl ⟨by decide, by decide, by decide +kernel⟩ ⟨Nat.le_of_ble_eq_true rfl, Nat.le_of_ble_eq_true rfl⟩) (va_recv hK hP (ci := 14) (q0 := 0) rfl rfl) (fun _ h9 => h9) (fun a9 h9 => hA a9 (Nat.le_trans hS.1 h9)) hG hS hP hK hD rfl hl.1 rfl (Nat.le_of_ble_eq_true rfl) dX10_account_132 ⟨Nat.le_of_ble_eq_true rfl, Nat.le_of_ble_eq_true rfl⟩ (fun r_14 u_14 H locs hw hz1 hk1 hP hS => ?_)
    have hP : va_P D vwCl (fz_WM k q f pa (va_up v 0 0)) H := hP
    obtain rfl : r_14 = 0 := hw
    have hP : va_P D vwCl (fz_MO q (va_up v 0 0)) H := hP.sub [0] rfl
    exact fz_iret hx hb hr rfl hlocks hS dX10_account_135 (va_up v 0 0) (Or.inr (Or.inr ⟨rfl, rfl, (fq_74 )⟩)) hP (Nat.le_of_ble_eq_true rfl) (Nat.le_of_ble_eq_true rfl)
  · skip
    refine lv_if_ne (tgt := 16) hx hb dX10_account_9 (by decide) (fun c_15 => absurd (by decide) c_15) (fun c_15 => ?_)
    refine lv_iconst (v := 1) hx hb dX10_account_12 (by decide) ?_
    refine lv_goto (tgt := 17) hx hb dX10_account_13 (by decide) ?_
    refine fz_cVi (As := [.int 1, .int 1]) (rest := []) S0 (m_fails1 l A D k q f pa v 1) (fz_cwV (C := RX10) 2 hts fm_553 fm_554 fm_555 fm_556 fm_469 rfl rfl ⟨by decide, by decide, by decide +kernel⟩ ⟨Nat.le_of_ble_eq_true rfl, Nat.le_of_ble_eq_true rfl⟩) (va_recv hK hP (ci := 14) (q0 := 0) rfl rfl) (fun _ h9 => h9) (fun a9 h9 => hA a9 (Nat.le_trans hS.1 h9)) hG hS hP hK hD rfl hl.1 rfl (Nat.le_of_ble_eq_true rfl) dX10_account_17 ⟨Nat.le_of_ble_eq_true rfl, Nat.le_of_ble_eq_true rfl⟩ (fun r_16 u_16 H locs hw hz1 hk1 hP hS => ?_)
    have hP : va_P D vwCl (fz_WM k q f pa (va_up v 0 1)) H := hP
    have hD : va_D A (fz_WM k q f pa (va_up v 0 1)) := fz_Dsame hD rfl
    obtain rfl : r_16 = 1 := hw
    refine lv_if_eq (tgt := 25) hx hb dX10_account_20 (by decide) (fun c_17 => absurd c_17 (by decide)) (fun c_17 => ?_)
    refine lv_iconst (v := 0) hx hb dX10_account_23 (by decide) ?_
    have hP : va_P D vwCl (fz_MO q (va_up v 0 1)) H := hP.sub [0] rfl
    exact fz_iret hx hb hr rfl hlocks hS dX10_account_24 (va_up v 0 1) (Or.inl ⟨rfl, rfl, (fq_126 p0 hq_1)⟩) hP (Nat.le_of_ble_eq_true rfl) (Nat.le_of_ble_eq_true rfl)

set_option maxHeartbeats 4000000 in
set_option maxRecDepth 100000 in
theorem m_p_dayCount (l : Launch) (A : Nat → Prop) (D : va_G) (k : Nat → ClassId) (q : Nat → Nat) (f : Nat → Nat → Int32) (pa : Nat → Option Nat) (v : Nat → Int32) (p0 p1 : Int32) (g_f_1_0 : f 1 0 = 1) (g_f_1_7 : f 1 7 = 1) (g_f_1_10 : f 1 10 = 0) (g_f_1_4 : f 1 4 = 0)  :
    Met l yX10_dayCount (fz_ws yX10_dayCount cX10_dayCount 3 (some .int)) { frames := 48, cells := 0, slots := 0, locals := 640 } (va_Pc [.ref (q 0), .int p0, .int p1] (fz_PC A D (fz_tys k) (fz_WM k q f pa v))) (fz_QI D A (fun (u : Nat → Int32) => fz_MO q u) (fun (r : Int32) (u : Nat → Int32) => (r = 0 ∧ u 0 = 1 ∧ (¬ ((0 ≤ p0 ∧ p0 ≤ 9999)) ∨ ¬ ((0 ≤ p1 ∧ p1 ≤ 3)))) ∨ (r = 0 ∧ u 0 = 0 ∧ ((0 ≤ p0 ∧ p0 ≤ 9999) ∧ (0 ≤ p1 ∧ p1 ≤ 3))))) 0 0 A := by
  refine fz_of (by decide +kernel) (Nat.le_of_ble_eq_true rfl) ?_
  intro p e s m below meth c hx hb hr hml hown hlocks hts hin hA hP hK hD hG hS ls hl
  have hown : s.vm.findClass RX10 = some m.cls := hown
  have S0 : CallFix p m c cX10_dayCount 3 s [.ref (q 0), .int p0, .int p1].toArray (fz_ws yX10_dayCount cX10_dayCount 3 (some .int)) RX10 := ⟨hx, hb, hml, hown, hts⟩
  have hl : lv_has ls 3 [(0, .ref (q 0)), (1, .int p0), (2, .int p1)] := hl
  refine lv_aload_n hx hb dX10_dayCount_0 rfl (lv_at hl 0 rfl) ?_
  refine lv_iconst (v := 1) hx hb dX10_dayCount_1 (by decide) ?_
  refine lv_iload_n hx hb dX10_dayCount_2 rfl (lv_at hl 1 rfl) ?_
  refine fz_cSi (As := [.int p0]) (rest := [.int 1, .ref (q 0)]) S0 (m_isDay l A D k q f pa v p0) (fz_cwS 1 hts fm_489 fm_490 fm_491 fm_469 rfl rfl ⟨by decide, by decide, by decide +kernel⟩ ⟨Nat.le_of_ble_eq_true rfl, Nat.le_of_ble_eq_true rfl⟩) (fun _ h9 => h9) (fun a9 h9 => hA a9 (Nat.le_trans hS.1 h9)) hG hS hP hK hD rfl hl.1 rfl (Nat.le_of_ble_eq_true rfl) dX10_dayCount_3 ⟨Nat.le_of_ble_eq_true rfl, Nat.le_of_ble_eq_true rfl⟩ (fun r_1 u_1 H locs hw hz1 hk1 hP hS => ?_)
  have hP : va_P D vwCl (fz_WM k q f pa v) H := hP
  rcases (show (r_1 = 1 ∧ (0 ≤ p0 ∧ p0 ≤ 9999)) ∨ (r_1 = 0 ∧ ¬ ((0 ≤ p0 ∧ p0 ≤ 9999))) from hw) with ⟨rfl, hq_1⟩ | ⟨rfl, hq_1⟩
  · skip
    refine lv_if_eq (tgt := 18) hx hb dX10_dayCount_6 (by decide) (fun c_2 => absurd c_2 (by decide)) (fun c_2 => ?_)
    refine lv_iload_n hx hb dX10_dayCount_9 rfl (lv_at hl 2 rfl) ?_
    refine lv_iconst (v := 0) hx hb dX10_dayCount_10 (by decide) ?_
    refine lv_iconst (v := 3) hx hb dX10_dayCount_11 (by decide) ?_
    refine fz_cSi (As := [.int p1, .int 0, .int 3]) (rest := [.int 1, .ref (q 0)]) S0 (m_isBetween l A D k q f pa v p1 0 3) (fz_cwS 3 hts fm_474 fm_475 fm_476 fm_469 rfl rfl ⟨by decide, by decide, by decide +kernel⟩ ⟨Nat.le_of_ble_eq_true rfl, Nat.le_of_ble_eq_true rfl⟩) (fun _ h9 => h9) (fun a9 h9 => hA a9 (Nat.le_trans hS.1 h9)) hG hS hP hK hD rfl hl.1 rfl (Nat.le_of_ble_eq_true rfl) dX10_dayCount_12 ⟨Nat.le_of_ble_eq_true rfl, Nat.le_of_ble_eq_true rfl⟩ (fun r_3 u_3 H locs hw hz1 hk1 hP hS => ?_)
    have hP : va_P D vwCl (fz_WM k q f pa v) H := hP
    rcases (show (r_3 = 1 ∧ (0 ≤ p1 ∧ p1 ≤ 3)) ∨ (r_3 = 0 ∧ ¬ ((0 ≤ p1 ∧ p1 ≤ 3))) from hw) with ⟨rfl, hq_3⟩ | ⟨rfl, hq_3⟩
    · skip
      refine lv_if_ne (tgt := 22) hx hb dX10_dayCount_15 (by decide) (fun c_4 => ?_) (fun c_4 => absurd c_4 (by decide))
      refine lv_iconst (v := 0) hx hb dX10_dayCount_22 (by decide) ?_
      refine fz_cVi (As := [.int 1, .int 0]) (rest := []) S0 (m_fails0 l A D k q f pa v 1) (fz_cwV (C := RX10) 2 hts fm_553 fm_554 fm_555 fm_556 fm_469 rfl rfl ⟨by decide, by decide, by decide +kernel⟩ ⟨Nat.le_of_ble_eq_true rfl, Nat.le_of_ble_eq_true rfl⟩) (va_recv hK hP (ci := 14) (q0 := 0) rfl rfl) (fun _ h9 => h9) (fun a9 h9 => hA a9 (Nat.le_trans hS.1 h9)) hG hS hP hK hD rfl hl.1 rfl (Nat.le_of_ble_eq_true rfl) dX10_dayCount_23 ⟨Nat.le_of_ble_eq_true rfl, Nat.le_of_ble_eq_true rfl⟩ (fun r_5 u_5 H locs hw hz1 hk1 hP hS => ?_)
      have hP : va_P D vwCl (fz_WM k q f pa (va_up v 0 0)) H := hP
      have hD : va_D A (fz_WM k q f pa (va_up v 0 0)) := fz_Dsame hD rfl
      obtain rfl : r_5 = 0 := hw
      refine lv_if_eq (tgt := 31) hx hb dX10_dayCount_26 (by decide) (fun c_6 => ?_) (fun c_6 => absurd (by decide) c_6)
      refine lv_iload_n hx hb dX10_dayCount_31 rfl (lv_at hl 2 rfl) ?_
      refine lv_if_ne (tgt := 43) hx hb dX10_dayCount_32 (by decide) (fun c_7 => ?_) (fun c_7 => ?_)
      · skip
        refine lv_iload_n hx hb dX10_dayCount_43 rfl (lv_at hl 2 rfl) ?_
        refine lv_iconst (v := 1) hx hb dX10_dayCount_44 (by decide) ?_
        refine lv_icmp_ne (tgt := 56) hx hb dX10_dayCount_45 (by decide) (fun c_8 => ?_) (fun c_8 => ?_)
        · skip
          refine lv_aload_n hx hb dX10_dayCount_56 rfl (lv_at hl 0 rfl) ?_
          refine lv_iload_n hx hb dX10_dayCount_57 rfl (lv_at hl 1 rfl) ?_
          refine lv_iload_n hx hb dX10_dayCount_58 rfl (lv_at hl 2 rfl) ?_
          refine lv_iconst (v := 3) hx hb dX10_dayCount_59 (by decide) ?_
          refine lv_icmp_ne (tgt := 67) hx hb dX10_dayCount_60 (by decide) (fun c_9 => ?_) (fun c_9 => ?_)
          · skip
            obtain rfl : p1 = 2 := (fq_127 p1 hq_3 c_7 c_8 c_9)
            refine lv_iconst (v := 0) hx hb dX10_dayCount_67 (by decide) ?_
            refine fz_cVi (As := [.int p0, .int 0]) (rest := []) S0 (m_countOpen0 l A D k q f pa (va_up v 0 0) p0 g_f_1_0 g_f_1_7 g_f_1_10) (fz_cwV (C := RX10) 2 hts fm_624 fm_625 fm_626 fm_627 fm_469 rfl rfl ⟨by decide, by decide, by decide +kernel⟩ ⟨Nat.le_of_ble_eq_true rfl, Nat.le_of_ble_eq_true rfl⟩) (va_recv hK hP (ci := 14) (q0 := 0) rfl rfl) (fun _ h9 => h9) (fun a9 h9 => hA a9 (Nat.le_trans hS.1 h9)) hG hS hP hK hD rfl hl.1 rfl (Nat.le_of_ble_eq_true rfl) dX10_dayCount_68 ⟨Nat.le_of_ble_eq_true rfl, Nat.le_of_ble_eq_true rfl⟩ (fun r_10 u_10 H locs hw hz1 hk1 hP hS => ?_)
            have hP : va_P D vwCl (fz_WM k q f pa (va_up v 0 0)) H := hP
            obtain rfl : r_10 = 0 := hw
            have hP : va_P D vwCl (fz_MO q (va_up v 0 0)) H := hP.sub [0] rfl
            exact fz_iret hx hb hr rfl hlocks hS dX10_dayCount_71 (va_up v 0 0) (Or.inr ⟨rfl, rfl, (fq_79 p0 hq_1)⟩) hP (Nat.le_of_ble_eq_true rfl) (Nat.le_of_ble_eq_true rfl)
          · skip
            obtain rfl : p1 = 3 := (fq_128 p1 c_9)
            refine lv_iconst (v := 1) hx hb dX10_dayCount_63 (by decide) ?_
            refine lv_goto (tgt := 68) hx hb dX10_dayCount_64 (by decide) ?_
            refine fz_cVi (As := [.int p0, .int 1]) (rest := []) S0 (m_countOpen1 l A D k q f pa (va_up v 0 0) p0 g_f_1_0 g_f_1_7 g_f_1_10) (fz_cwV (C := RX10) 2 hts fm_624 fm_625 fm_626 fm_627 fm_469 rfl rfl ⟨by decide, by decide, by decide +kernel⟩ ⟨Nat.le_of_ble_eq_true rfl, Nat.le_of_ble_eq_true rfl⟩) (va_recv hK hP (ci := 14) (q0 := 0) rfl rfl) (fun _ h9 => h9) (fun a9 h9 => hA a9 (Nat.le_trans hS.1 h9)) hG hS hP hK hD rfl hl.1 rfl (Nat.le_of_ble_eq_true rfl) dX10_dayCount_68 ⟨Nat.le_of_ble_eq_true rfl, Nat.le_of_ble_eq_true rfl⟩ (fun r_11 u_11 H locs hw hz1 hk1 hP hS => ?_)
            have hP : va_P D vwCl (fz_WM k q f pa (va_up v 0 0)) H := hP
            obtain rfl : r_11 = 0 := hw
            have hP : va_P D vwCl (fz_MO q (va_up v 0 0)) H := hP.sub [0] rfl
            exact fz_iret hx hb hr rfl hlocks hS dX10_dayCount_71 (va_up v 0 0) (Or.inr ⟨rfl, rfl, (fq_81 p0 hq_1)⟩) hP (Nat.le_of_ble_eq_true rfl) (Nat.le_of_ble_eq_true rfl)
        · skip
          obtain rfl : p1 = 1 := (fq_18 p1 c_8)
          refine lv_aload_n hx hb dX10_dayCount_48 rfl (lv_at hl 0 rfl) ?_
          refine lv_iload_n hx hb dX10_dayCount_49 rfl (lv_at hl 1 rfl) ?_
          refine fz_cVi (As := [.int p0]) (rest := []) S0 (m_countSeated l A D k q f pa (va_up v 0 0) p0 g_f_1_4) (fz_cwV (C := RX10) 1 hts fm_628 fm_629 fm_630 fm_631 fm_469 rfl rfl ⟨by decide, by decide, by decide +kernel⟩ ⟨Nat.le_of_ble_eq_true rfl, Nat.le_of_ble_eq_true rfl⟩) (va_recv hK hP (ci := 14) (q0 := 0) rfl rfl) (fun _ h9 => h9) (fun a9 h9 => hA a9 (Nat.le_trans hS.1 h9)) hG hS hP hK hD rfl hl.1 rfl (Nat.le_of_ble_eq_true rfl) dX10_dayCount_50 ⟨Nat.le_of_ble_eq_true rfl, Nat.le_of_ble_eq_true rfl⟩ (fun r_12 u_12 H locs hw hz1 hk1 hP hS => ?_)
          have hP : va_P D vwCl (fz_WM k q f pa (va_up v 0 0)) H := hP
          obtain rfl : r_12 = 0 := hw
          refine lv_goto (tgt := 71) hx hb dX10_dayCount_53 (by decide) ?_
          have hP : va_P D vwCl (fz_MO q (va_up v 0 0)) H := hP.sub [0] rfl
          exact fz_iret hx hb hr rfl hlocks hS dX10_dayCount_71 (va_up v 0 0) (Or.inr ⟨rfl, rfl, (fq_78 p0 hq_1)⟩) hP (Nat.le_of_ble_eq_true rfl) (Nat.le_of_ble_eq_true rfl)
      · skip
        obtain rfl : p1 = 0 := (fq_27 p1 c_7)
        refine lv_aload_n hx hb dX10_dayCount_35 rfl (lv_at hl 0 rfl) ?_
        refine lv_iload_n hx hb dX10_dayCount_36 rfl (lv_at hl 1 rfl) ?_
        refine fz_cVi (As := [.int p0]) (rest := []) S0 (m_countOn l A D k q f pa (va_up v 0 0) p0 g_f_1_4) (fz_cwV (C := RX10) 1 hts fm_632 fm_633 fm_634 fm_635 fm_469 rfl rfl ⟨by decide, by decide, by decide +kernel⟩ ⟨Nat.le_of_ble_eq_true rfl, Nat.le_of_ble_eq_true rfl⟩) (va_recv hK hP (ci := 14) (q0 := 0) rfl rfl) (fun _ h9 => h9) (fun a9 h9 => hA a9 (Nat.le_trans hS.1 h9)) hG hS hP hK hD rfl hl.1 rfl (Nat.le_of_ble_eq_true rfl) dX10_dayCount_37 ⟨Nat.le_of_ble_eq_true rfl, Nat.le_of_ble_eq_true rfl⟩ (fun r_13 u_13 H locs hw hz1 hk1 hP hS => ?_)
        have hP : va_P D vwCl (fz_WM k q f pa (va_up v 0 0)) H := hP
        obtain rfl : r_13 = 0 := hw
        refine lv_goto (tgt := 71) hx hb dX10_dayCount_40 (by decide) ?_
        have hP : va_P D vwCl (fz_MO q (va_up v 0 0)) H := hP.sub [0] rfl
        exact fz_iret hx hb hr rfl hlocks hS dX10_dayCount_71 (va_up v 0 0) (Or.inr ⟨rfl, rfl, (fq_77 p0 hq_1)⟩) hP (Nat.le_of_ble_eq_true rfl) (Nat.le_of_ble_eq_true rfl)
    · skip
      refine lv_if_ne (tgt := 22) hx hb dX10_dayCount_15 (by decide) (fun c_14 => absurd (by decide) c_14) (fun c_14 => ?_)
      refine lv_iconst (v := 1) hx hb dX10_dayCount_18 (by decide) ?_
      refine lv_goto (tgt := 23) hx hb dX10_dayCount_19 (by decide) ?_
      refine fz_cVi (As := [.int 1, .int 1]) (rest := []) S0 (m_fails1 l A D k q f pa v 1) (fz_cwV (C := RX10) 2 hts fm_553 fm_554 fm_555 fm_556 fm_469 rfl rfl ⟨by decide, by decide, by decide +kernel⟩ ⟨Nat.le_of_ble_eq_true rfl, Nat.le_of_ble_eq_true rfl⟩) (va_recv hK hP (ci := 14) (q0 := 0) rfl rfl) (fun _ h9 => h9) (fun a9 h9 => hA a9 (Nat.le_trans hS.1 h9)) hG hS hP hK hD rfl hl.1 rfl (Nat.le_of_ble_eq_true rfl) dX10_dayCount_23 ⟨Nat.le_of_ble_eq_true rfl, Nat.le_of_ble_eq_true rfl⟩ (fun r_15 u_15 H locs hw hz1 hk1 hP hS => ?_)
      have hP : va_P D vwCl (fz_WM k q f pa (va_up v 0 1)) H := hP
      have hD : va_D A (fz_WM k q f pa (va_up v 0 1)) := fz_Dsame hD rfl
      obtain rfl : r_15 = 1 := hw
      refine lv_if_eq (tgt := 31) hx hb dX10_dayCount_26 (by decide) (fun c_16 => absurd c_16 (by decide)) (fun c_16 => ?_)
      refine lv_iconst (v := 0) hx hb dX10_dayCount_29 (by decide) ?_
      have hP : va_P D vwCl (fz_MO q (va_up v 0 1)) H := hP.sub [0] rfl
      exact fz_iret hx hb hr rfl hlocks hS dX10_dayCount_30 (va_up v 0 1) (Or.inl ⟨rfl, rfl, (fq_129 p0 p1 hq_3)⟩) hP (Nat.le_of_ble_eq_true rfl) (Nat.le_of_ble_eq_true rfl)
  · skip
    refine lv_if_eq (tgt := 18) hx hb dX10_dayCount_6 (by decide) (fun c_17 => ?_) (fun c_17 => absurd (by decide) c_17)
    refine lv_iconst (v := 1) hx hb dX10_dayCount_18 (by decide) ?_
    refine lv_goto (tgt := 23) hx hb dX10_dayCount_19 (by decide) ?_
    refine fz_cVi (As := [.int 1, .int 1]) (rest := []) S0 (m_fails1 l A D k q f pa v 1) (fz_cwV (C := RX10) 2 hts fm_553 fm_554 fm_555 fm_556 fm_469 rfl rfl ⟨by decide, by decide, by decide +kernel⟩ ⟨Nat.le_of_ble_eq_true rfl, Nat.le_of_ble_eq_true rfl⟩) (va_recv hK hP (ci := 14) (q0 := 0) rfl rfl) (fun _ h9 => h9) (fun a9 h9 => hA a9 (Nat.le_trans hS.1 h9)) hG hS hP hK hD rfl hl.1 rfl (Nat.le_of_ble_eq_true rfl) dX10_dayCount_23 ⟨Nat.le_of_ble_eq_true rfl, Nat.le_of_ble_eq_true rfl⟩ (fun r_18 u_18 H locs hw hz1 hk1 hP hS => ?_)
    have hP : va_P D vwCl (fz_WM k q f pa (va_up v 0 1)) H := hP
    have hD : va_D A (fz_WM k q f pa (va_up v 0 1)) := fz_Dsame hD rfl
    obtain rfl : r_18 = 1 := hw
    refine lv_if_eq (tgt := 31) hx hb dX10_dayCount_26 (by decide) (fun c_19 => absurd c_19 (by decide)) (fun c_19 => ?_)
    refine lv_iconst (v := 0) hx hb dX10_dayCount_29 (by decide) ?_
    have hP : va_P D vwCl (fz_MO q (va_up v 0 1)) H := hP.sub [0] rfl
    exact fz_iret hx hb hr rfl hlocks hS dX10_dayCount_30 (va_up v 0 1) (Or.inl ⟨rfl, rfl, (fq_75 p0 p1 hq_1)⟩) hP (Nat.le_of_ble_eq_true rfl) (Nat.le_of_ble_eq_true rfl)

set_option maxHeartbeats 4000000 in
set_option maxRecDepth 100000 in
theorem m_p_openShare (l : Launch) (A : Nat → Prop) (D : va_G) (k : Nat → ClassId) (q : Nat → Nat) (f : Nat → Nat → Int32) (pa : Nat → Option Nat) (v : Nat → Int32) (p0 : Int32) (g_f_1_0 : f 1 0 = 1) (g_f_1_7 : f 1 7 = 1) (g_f_1_10 : f 1 10 = 0)  :
    Met l yX10_openShare (fz_ws yX10_openShare cX10_openShare 2 (some .double)) { frames := 48, cells := 0, slots := 0, locals := 640 } (va_Pc [.ref (q 0), .int p0] (fz_PC A D (fz_tys k) (fz_WM k q f pa v))) (fz_QD D A (fun (u : Nat → Int32) => fz_MO q u) (fun (_ : UInt64) (u : Nat → Int32) => (u 0 = 1 ∧ ¬ ((0 ≤ p0 ∧ p0 ≤ 9999))) ∨ (u 0 = 2 ∧ (0 ≤ p0 ∧ p0 ≤ 9999)))) 0 0 A := by
  refine fz_of (by decide +kernel) (Nat.le_of_ble_eq_true rfl) ?_
  intro p e s m below meth c hx hb hr hml hown hlocks hts hin hA hP hK hD hG hS ls hl
  have hown : s.vm.findClass RX10 = some m.cls := hown
  have S0 : CallFix p m c cX10_openShare 2 s [.ref (q 0), .int p0].toArray (fz_ws yX10_openShare cX10_openShare 2 (some .double)) RX10 := ⟨hx, hb, hml, hown, hts⟩
  have hl : lv_has ls 2 [(0, .ref (q 0)), (1, .int p0)] := hl
  refine lv_aload_n hx hb dX10_openShare_0 rfl (lv_at hl 0 rfl) ?_
  refine lv_iconst (v := 1) hx hb dX10_openShare_1 (by decide) ?_
  refine lv_iload_n hx hb dX10_openShare_2 rfl (lv_at hl 1 rfl) ?_
  refine fz_cSi (As := [.int p0]) (rest := [.int 1, .ref (q 0)]) S0 (m_isDay l A D k q f pa v p0) (fz_cwS 1 hts fm_489 fm_490 fm_491 fm_469 rfl rfl ⟨by decide, by decide, by decide +kernel⟩ ⟨Nat.le_of_ble_eq_true rfl, Nat.le_of_ble_eq_true rfl⟩) (fun _ h9 => h9) (fun a9 h9 => hA a9 (Nat.le_trans hS.1 h9)) hG hS hP hK hD rfl hl.1 rfl (Nat.le_of_ble_eq_true rfl) dX10_openShare_3 ⟨Nat.le_of_ble_eq_true rfl, Nat.le_of_ble_eq_true rfl⟩ (fun r_1 u_1 H locs hw hz1 hk1 hP hS => ?_)
  have hP : va_P D vwCl (fz_WM k q f pa v) H := hP
  rcases (show (r_1 = 1 ∧ (0 ≤ p0 ∧ p0 ≤ 9999)) ∨ (r_1 = 0 ∧ ¬ ((0 ≤ p0 ∧ p0 ≤ 9999))) from hw) with ⟨rfl, hq_1⟩ | ⟨rfl, hq_1⟩
  · skip
    refine lv_if_ne (tgt := 13) hx hb dX10_openShare_6 (by decide) (fun c_2 => ?_) (fun c_2 => absurd c_2 (by decide))
    refine lv_iconst (v := 0) hx hb dX10_openShare_13 (by decide) ?_
    refine fz_cVi (As := [.int 1, .int 0]) (rest := []) S0 (m_fails0 l A D k q f pa v 1) (fz_cwV (C := RX10) 2 hts fm_553 fm_554 fm_555 fm_556 fm_469 rfl rfl ⟨by decide, by decide, by decide +kernel⟩ ⟨Nat.le_of_ble_eq_true rfl, Nat.le_of_ble_eq_true rfl⟩) (va_recv hK hP (ci := 14) (q0 := 0) rfl rfl) (fun _ h9 => h9) (fun a9 h9 => hA a9 (Nat.le_trans hS.1 h9)) hG hS hP hK hD rfl hl.1 rfl (Nat.le_of_ble_eq_true rfl) dX10_openShare_14 ⟨Nat.le_of_ble_eq_true rfl, Nat.le_of_ble_eq_true rfl⟩ (fun r_3 u_3 H locs hw hz1 hk1 hP hS => ?_)
    have hP : va_P D vwCl (fz_WM k q f pa (va_up v 0 0)) H := hP
    have hD : va_D A (fz_WM k q f pa (va_up v 0 0)) := fz_Dsame hD rfl
    obtain rfl : r_3 = 0 := hw
    refine lv_if_ne (tgt := 41) hx hb dX10_openShare_17 (by decide) (fun c_4 => absurd (by decide) c_4) (fun c_4 => ?_)
    refine lv_aload_n hx hb dX10_openShare_20 rfl (lv_at hl 0 rfl) ?_
    refine lv_iconst (v := 2) hx hb dX10_openShare_21 (by decide) ?_
    refine lv_aload_n hx hb dX10_openShare_22 rfl (lv_at hl 0 rfl) ?_
    refine lv_iconst (v := 0) hx hb dX10_openShare_23 (by decide) ?_
    refine fz_cVi (As := [.int 0]) (rest := [.int 2, .ref (q 0)]) S0 (m_countUnits0 l A D k q f pa (va_up v 0 0) g_f_1_0 g_f_1_7 g_f_1_10) (fz_cwV (C := RX10) 1 hts fm_608 fm_609 fm_610 fm_611 fm_469 rfl rfl ⟨by decide, by decide, by decide +kernel⟩ ⟨Nat.le_of_ble_eq_true rfl, Nat.le_of_ble_eq_true rfl⟩) (va_recv hK hP (ci := 14) (q0 := 0) rfl rfl) (fun _ h9 => h9) (fun a9 h9 => hA a9 (Nat.le_trans hS.1 h9)) hG hS hP hK hD rfl hl.1 rfl (Nat.le_of_ble_eq_true rfl) dX10_openShare_24 ⟨Nat.le_of_ble_eq_true rfl, Nat.le_of_ble_eq_true rfl⟩ (fun r_5 u_5 H locs hw hz1 hk1 hP hS => ?_)
    have hP : va_P D vwCl (fz_WM k q f pa (va_up v 0 0)) H := hP
    obtain rfl : r_5 = 0 := hw
    refine lv_if_ne (tgt := 34) hx hb dX10_openShare_27 (by decide) (fun c_6 => absurd (by decide) c_6) (fun c_6 => ?_)
    refine lv_iconst (v := 1) hx hb dX10_openShare_30 (by decide) ?_
    refine lv_goto (tgt := 35) hx hb dX10_openShare_31 (by decide) ?_
    refine fz_cVi (As := [.int 2, .int 1]) (rest := []) S0 (m_fails1 l A D k q f pa (va_up v 0 0) 2) (fz_cwV (C := RX10) 2 hts fm_553 fm_554 fm_555 fm_556 fm_469 rfl rfl ⟨by decide, by decide, by decide +kernel⟩ ⟨Nat.le_of_ble_eq_true rfl, Nat.le_of_ble_eq_true rfl⟩) (va_recv hK hP (ci := 14) (q0 := 0) rfl rfl) (fun _ h9 => h9) (fun a9 h9 => hA a9 (Nat.le_trans hS.1 h9)) hG hS hP hK hD rfl hl.1 rfl (Nat.le_of_ble_eq_true rfl) dX10_openShare_35 ⟨Nat.le_of_ble_eq_true rfl, Nat.le_of_ble_eq_true rfl⟩ (fun r_7 u_7 H locs hw hz1 hk1 hP hS => ?_)
    have hP : va_P D vwCl (fz_WM k q f pa (va_up v 0 2)) H := hP
    have hD : va_D A (fz_WM k q f pa (va_up v 0 2)) := fz_Dsame hD rfl
    obtain rfl : r_7 = 1 := hw
    refine lv_if_eq (tgt := 43) hx hb dX10_openShare_38 (by decide) (fun c_8 => absurd c_8 (by decide)) (fun c_8 => ?_)
    refine lv_dconst0 hx hb dX10_openShare_41 ?_
    have hP : va_P D vwCl (fz_MO q (va_up v 0 2)) H := hP.sub [0] rfl
    exact fz_dret hx hb hr hlocks hS dX10_openShare_42 (va_up v 0 2) (Or.inr ⟨rfl, (fq_33 p0 hq_1)⟩) hP (Nat.le_of_ble_eq_true rfl) (Nat.le_of_ble_eq_true rfl)
  · skip
    refine lv_if_ne (tgt := 13) hx hb dX10_openShare_6 (by decide) (fun c_9 => absurd (by decide) c_9) (fun c_9 => ?_)
    refine lv_iconst (v := 1) hx hb dX10_openShare_9 (by decide) ?_
    refine lv_goto (tgt := 14) hx hb dX10_openShare_10 (by decide) ?_
    refine fz_cVi (As := [.int 1, .int 1]) (rest := []) S0 (m_fails1 l A D k q f pa v 1) (fz_cwV (C := RX10) 2 hts fm_553 fm_554 fm_555 fm_556 fm_469 rfl rfl ⟨by decide, by decide, by decide +kernel⟩ ⟨Nat.le_of_ble_eq_true rfl, Nat.le_of_ble_eq_true rfl⟩) (va_recv hK hP (ci := 14) (q0 := 0) rfl rfl) (fun _ h9 => h9) (fun a9 h9 => hA a9 (Nat.le_trans hS.1 h9)) hG hS hP hK hD rfl hl.1 rfl (Nat.le_of_ble_eq_true rfl) dX10_openShare_14 ⟨Nat.le_of_ble_eq_true rfl, Nat.le_of_ble_eq_true rfl⟩ (fun r_10 u_10 H locs hw hz1 hk1 hP hS => ?_)
    have hP : va_P D vwCl (fz_WM k q f pa (va_up v 0 1)) H := hP
    have hD : va_D A (fz_WM k q f pa (va_up v 0 1)) := fz_Dsame hD rfl
    obtain rfl : r_10 = 1 := hw
    refine lv_if_ne (tgt := 41) hx hb dX10_openShare_17 (by decide) (fun c_11 => ?_) (fun c_11 => absurd c_11 (by decide))
    refine lv_dconst0 hx hb dX10_openShare_41 ?_
    have hP : va_P D vwCl (fz_MO q (va_up v 0 1)) H := hP.sub [0] rfl
    exact fz_dret hx hb hr hlocks hS dX10_openShare_42 (va_up v 0 1) (Or.inl ⟨rfl, (fq_34 p0 hq_1)⟩) hP (Nat.le_of_ble_eq_true rfl) (Nat.le_of_ble_eq_true rfl)

set_option maxHeartbeats 4000000 in
set_option maxRecDepth 100000 in
theorem m_p_report (l : Launch) (A : Nat → Prop) (D : va_G) (k : Nat → ClassId) (q : Nat → Nat) (f : Nat → Nat → Int32) (pa : Nat → Option Nat) (v : Nat → Int32) (p0 p1 : Int32) (g_v_9 : v 9 = 0)  :
    Met l yX10_report (fz_ws yX10_report cX10_report 3 (some .int)) { frames := 12, cells := 0, slots := 0, locals := 160 } (va_Pc [.ref (q 0), .int p0, .int p1] (fz_PC A D (fz_tys k) (fz_WM k q f pa v))) (fz_QI D A (fun (u : Nat → Int32) => fz_MO q u) (fun (r : Int32) (u : Nat → Int32) => (r = 0 ∧ u 0 = 1 ∧ True))) 0 0 A := by
  refine fz_of (by decide +kernel) (Nat.le_of_ble_eq_true rfl) ?_
  intro p e s m below meth c hx hb hr hml hown hlocks hts hin hA hP hK hD hG hS ls hl
  have hown : s.vm.findClass RX10 = some m.cls := hown
  have S0 : CallFix p m c cX10_report 3 s [.ref (q 0), .int p0, .int p1].toArray (fz_ws yX10_report cX10_report 3 (some .int)) RX10 := ⟨hx, hb, hml, hown, hts⟩
  have hl : lv_has ls 3 [(0, .ref (q 0)), (1, .int p0), (2, .int p1)] := hl
  refine lv_aload_n hx hb dX10_report_0 rfl (lv_at hl 0 rfl) ?_
  refine lv_iconst (v := 1) hx hb dX10_report_1 (by decide) ?_
  refine lv_iload_n hx hb dX10_report_2 rfl (lv_at hl 1 rfl) ?_
  refine lv_iconst (v := 0) hx hb dX10_report_3 (by decide) ?_
  refine lv_aload_n hx hb dX10_report_4 rfl (lv_at hl 0 rfl) ?_
  refine va_get (D := D) (ci := 14) (v := .int (v 9)) (C := RX10) (T := TX10) (N := 22) hx hb hts (fun w9 h9 => fz_m (fin_X10 w9 h9)) hown hK hP 0 rfl rfl 9 (by decide) (hts _ (fz_m fm_636)) (fun _ h9 => h9) rfl dX10_report_5 ?_
  refine fz_I (y := 0) g_v_9 ?_
  refine lv_iconst (v := 1) hx hb dX10_report_8 (by decide) ?_
  refine lv_isub hx hb dX10_report_9 ?_
  refine fz_I (y := (-1)) (by decide) ?_
  refine fz_cSi (As := [.int p0, .int 0, .int (-1)]) (rest := [.int 1, .ref (q 0)]) S0 (m_isBetween l A D k q f pa v p0 0 (-1)) (fz_cwS 3 hts fm_474 fm_475 fm_476 fm_469 rfl rfl ⟨by decide, by decide, by decide +kernel⟩ ⟨Nat.le_of_ble_eq_true rfl, Nat.le_of_ble_eq_true rfl⟩) (fun _ h9 => h9) (fun a9 h9 => hA a9 (Nat.le_trans hS.1 h9)) hG hS hP hK hD rfl hl.1 rfl (Nat.le_of_ble_eq_true rfl) dX10_report_10 ⟨Nat.le_of_ble_eq_true rfl, Nat.le_of_ble_eq_true rfl⟩ (fun r_1 u_1 H locs hw hz1 hk1 hP hS => ?_)
  have hP : va_P D vwCl (fz_WM k q f pa v) H := hP
  rcases (show (r_1 = 1 ∧ (0 ≤ p0 ∧ p0 ≤ (-1))) ∨ (r_1 = 0 ∧ ¬ ((0 ≤ p0 ∧ p0 ≤ (-1)))) from hw) with ⟨rfl, hq_1⟩ | ⟨rfl, hq_1⟩
  · skip
    exact (fq_113 p0 hq_1).elim
  · skip
    refine lv_if_ne (tgt := 20) hx hb dX10_report_13 (by decide) (fun c_2 => absurd (by decide) c_2) (fun c_2 => ?_)
    refine lv_iconst (v := 1) hx hb dX10_report_16 (by decide) ?_
    refine lv_goto (tgt := 21) hx hb dX10_report_17 (by decide) ?_
    refine fz_cVi (As := [.int 1, .int 1]) (rest := []) S0 (m_fails1 l A D k q f pa v 1) (fz_cwV (C := RX10) 2 hts fm_553 fm_554 fm_555 fm_556 fm_469 rfl rfl ⟨by decide, by decide, by decide +kernel⟩ ⟨Nat.le_of_ble_eq_true rfl, Nat.le_of_ble_eq_true rfl⟩) (va_recv hK hP (ci := 14) (q0 := 0) rfl rfl) (fun _ h9 => h9) (fun a9 h9 => hA a9 (Nat.le_trans hS.1 h9)) hG hS hP hK hD rfl hl.1 rfl (Nat.le_of_ble_eq_true rfl) dX10_report_21 ⟨Nat.le_of_ble_eq_true rfl, Nat.le_of_ble_eq_true rfl⟩ (fun r_3 u_3 H locs hw hz1 hk1 hP hS => ?_)
    have hP : va_P D vwCl (fz_WM k q f pa (va_up v 0 1)) H := hP
    have hD : va_D A (fz_WM k q f pa (va_up v 0 1)) := fz_Dsame hD rfl
    obtain rfl : r_3 = 1 := hw
    refine lv_if_ne (tgt := 49) hx hb dX10_report_24 (by decide) (fun c_4 => ?_) (fun c_4 => absurd c_4 (by decide))
    refine lv_iconst (v := 0) hx hb dX10_report_49 (by decide) ?_
    have hP : va_P D vwCl (fz_MO q (va_up v 0 1)) H := hP.sub [0] rfl
    exact fz_iret hx hb hr rfl hlocks hS dX10_report_50 (va_up v 0 1) ⟨rfl, rfl, trivial⟩ hP (Nat.le_of_ble_eq_true rfl) (Nat.le_of_ble_eq_true rfl)

set_option maxHeartbeats 4000000 in
set_option maxRecDepth 100000 in
theorem m_p_feed (l : Launch) (A : Nat → Prop) (D : va_G) (k : Nat → ClassId) (q : Nat → Nat) (f : Nat → Nat → Int32) (pa : Nat → Option Nat) (v : Nat → Int32) (p0 : Int32) (g_v_15 : v 15 = 0)  :
    Met l yX10_feed (fz_ws yX10_feed cX10_feed 2 (some .int)) { frames := 12, cells := 0, slots := 0, locals := 160 } (va_Pc [.ref (q 0), .int p0] (fz_PC A D (fz_tys k) (fz_WM k q f pa v))) (fz_QI D A (fun (u : Nat → Int32) => fz_MO q u) (fun (r : Int32) (u : Nat → Int32) => (r = 1 ∧ u 0 = 0 ∧ True))) 0 0 A := by
  refine fz_of (by decide +kernel) (Nat.le_of_ble_eq_true rfl) ?_
  intro p e s m below meth c hx hb hr hml hown hlocks hts hin hA hP hK hD hG hS ls hl
  have hown : s.vm.findClass RX10 = some m.cls := hown
  have S0 : CallFix p m c cX10_feed 2 s [.ref (q 0), .int p0].toArray (fz_ws yX10_feed cX10_feed 2 (some .int)) RX10 := ⟨hx, hb, hml, hown, hts⟩
  have hl : lv_has ls 2 [(0, .ref (q 0)), (1, .int p0)] := hl
  refine lv_aload_n hx hb dX10_feed_0 rfl (lv_at hl 0 rfl) ?_
  refine lv_iconst (v := 1) hx hb dX10_feed_1 (by decide) ?_
  refine lv_aload_n hx hb dX10_feed_2 rfl (lv_at hl 0 rfl) ?_
  refine va_get (D := D) (ci := 14) (v := .int (v 15)) (C := RX10) (T := TX10) (N := 22) hx hb hts (fun w9 h9 => fz_m (fin_X10 w9 h9)) hown hK hP 0 rfl rfl 15 (by decide) (hts _ (fz_m fm_538)) (fun _ h9 => h9) rfl dX10_feed_3 ?_
  refine fz_I (y := 0) g_v_15 ?_
  refine lv_bipush (v := 100) hx hb dX10_feed_6 (by decide) ?_
  refine lv_icmp_ne (tgt := 15) hx hb dX10_feed_8 (by decide) (fun c_1 => ?_) (fun c_1 => absurd c_1 (by decide))
  refine lv_iconst (v := 0) hx hb dX10_feed_15 (by decide) ?_
  refine fz_cVi (As := [.int 1, .int 0]) (rest := []) S0 (m_fails0 l A D k q f pa v 1) (fz_cwV (C := RX10) 2 hts fm_553 fm_554 fm_555 fm_556 fm_469 rfl rfl ⟨by decide, by decide, by decide +kernel⟩ ⟨Nat.le_of_ble_eq_true rfl, Nat.le_of_ble_eq_true rfl⟩) (va_recv hK hP (ci := 14) (q0 := 0) rfl rfl) (fun _ h9 => h9) (fun a9 h9 => hA a9 (Nat.le_trans hS.1 h9)) hG hS hP hK hD rfl hl.1 rfl (Nat.le_of_ble_eq_true rfl) dX10_feed_16 ⟨Nat.le_of_ble_eq_true rfl, Nat.le_of_ble_eq_true rfl⟩ (fun r_2 u_2 H locs hw hz1 hk1 hP hS => ?_)
  have hP : va_P D vwCl (fz_WM k q f pa (va_up v 0 0)) H := hP
  have hD : va_D A (fz_WM k q f pa (va_up v 0 0)) := fz_Dsame hD rfl
  obtain rfl : r_2 = 0 := hw
  refine lv_if_eq (tgt := 24) hx hb dX10_feed_19 (by decide) (fun c_3 => ?_) (fun c_3 => absurd (by decide) c_3)
  refine lv_aload_n hx hb dX10_feed_24 rfl (lv_at hl 0 rfl) ?_
  refine va_get (D := D) (ci := 14) (v := .ref (q 5)) (C := RX10) (T := TX10) (N := 22) hx hb hts (fun w9 h9 => fz_m (fin_X10 w9 h9)) hown hK hP 0 rfl rfl 14 (by decide) (hts _ (fz_m fm_637)) (fun _ h9 => h9) rfl dX10_feed_25 ?_
  refine lv_aload_n hx hb dX10_feed_28 rfl (lv_at hl 0 rfl) ?_
  refine va_get (D := D) (ci := 14) (v := .int ((va_up v 0 0) 15)) (C := RX10) (T := TX10) (N := 22) hx hb hts (fun w9 h9 => fz_m (fin_X10 w9 h9)) hown hK hP 0 rfl rfl 15 (by decide) (hts _ (fz_m fm_538)) (fun _ h9 => h9) rfl dX10_feed_29 ?_
  refine fz_I (y := 0) g_v_15 ?_
  refine lv_iload_n hx hb dX10_feed_32 rfl (lv_at hl 1 rfl) ?_
  refine va_cast hx hb hK hP hD hS 5 1 rfl rfl (fz_vin (by decide)) dX10_feed_33 (fun H locs hP hD hS => ?_)
  have hP : va_P D vwCl (fz_WM k q (va_up f 5 (upd (f 5) 0 (vp_nar .char p0))) pa (va_up v 0 0)) H := hP
  have hD : va_D A (fz_WM k q (va_up f 5 (upd (f 5) 0 (vp_nar .char p0))) pa (va_up v 0 0)) := hD
  refine lv_aload_n hx hb dX10_feed_34 rfl (lv_at hl 0 rfl) ?_
  refine lv_dup hx hb dX10_feed_35 rfl ?_
  refine va_get (D := D) (ci := 14) (v := .int ((va_up v 0 0) 15)) (C := RX10) (T := TX10) (N := 22) hx hb hts (fun w9 h9 => fz_m (fin_X10 w9 h9)) hown hK hP 0 rfl rfl 15 (by decide) (hts _ (fz_m fm_538)) (fun _ h9 => h9) rfl dX10_feed_36 ?_
  refine fz_I (y := 0) g_v_15 ?_
  refine lv_iconst (v := 1) hx hb dX10_feed_39 (by decide) ?_
  refine lv_iadd hx hb dX10_feed_40 ?_
  refine fz_I (y := 1) (by decide) ?_
  refine va_put (D := D) (ci := 14) (v := .int 1) (ty := .int) (C := RX10) (T := TX10) (N := 22) hx hb hts (fun w9 h9 => fz_m (fin_X10 w9 h9)) tyX10 tyX10_ok nmX10 hown hK hP hD hS 0 rfl rfl 15 (by decide) (hts _ (fz_m fm_538)) (fun _ h9 => h9) rfl (by decide +kernel) rfl rfl (Nat.le_of_ble_eq_true rfl) dX10_feed_41 (fun H locs hP hD hS => ?_)
  have hP : va_P D vwCl (fz_WM k q (va_up f 5 (upd (f 5) 0 (vp_nar .char p0))) pa (va_up (va_up v 0 0) 15 1)) H := hP
  have hD : va_D A (fz_WM k q (va_up f 5 (upd (f 5) 0 (vp_nar .char p0))) pa (va_up (va_up v 0 0) 15 1)) := hD
  refine lv_aload_n hx hb dX10_feed_44 rfl (lv_at hl 0 rfl) ?_
  refine va_get (D := D) (ci := 14) (v := .int ((va_up (va_up v 0 0) 15 1) 15)) (C := RX10) (T := TX10) (N := 22) hx hb hts (fun w9 h9 => fz_m (fin_X10 w9 h9)) hown hK hP 0 rfl rfl 15 (by decide) (hts _ (fz_m fm_538)) (fun _ h9 => h9) rfl dX10_feed_45 ?_
  refine fz_I (y := 1) rfl ?_
  have hP : va_P D vwCl (fz_MO q (va_up (va_up v 0 0) 15 1)) H := hP.sub [0] rfl
  exact fz_iret hx hb hr rfl hlocks hS dX10_feed_48 (va_up (va_up v 0 0) 15 1) ⟨rfl, rfl, trivial⟩ hP (Nat.le_of_ble_eq_true rfl) (Nat.le_of_ble_eq_true rfl)

set_option maxHeartbeats 4000000 in
set_option maxRecDepth 100000 in
theorem m_p_read (l : Launch) (A : Nat → Prop) (D : va_G) (k : Nat → ClassId) (q : Nat → Nat) (f : Nat → Nat → Int32) (pa : Nat → Option Nat) (v : Nat → Int32) (p0 : Int32) (g_f_1_0 : f 1 0 = 1) (g_f_1_7 : f 1 7 = 1) (g_v_15 : v 15 = 0)  :
    Met l yX10_read (fz_ws yX10_read cX10_read 2 (some .int)) { frames := 24, cells := 0, slots := 0, locals := 320 } (va_Pc [.ref (q 0), .int p0] (fz_PC A D (fz_tys k) (fz_WM k q f pa v))) (fz_QI D A (fun (u : Nat → Int32) => fz_MO q u) (fun (r : Int32) (u : Nat → Int32) => (r = 0 ∧ u 0 = 1 ∧ ¬ (p0 = 0)) ∨ (r = (-100) ∧ u 0 = 0 ∧ p0 = 0))) 0 0 A := by
  refine fz_of (by decide +kernel) (Nat.le_of_ble_eq_true rfl) ?_
  intro p e s m below meth c hx hb hr hml hown hlocks hts hin hA hP hK hD hG hS ls hl
  have hown : s.vm.findClass RX10 = some m.cls := hown
  have S0 : CallFix p m c cX10_read 2 s [.ref (q 0), .int p0].toArray (fz_ws yX10_read cX10_read 2 (some .int)) RX10 := ⟨hx, hb, hml, hown, hts⟩
  have hl : lv_has ls 2 [(0, .ref (q 0)), (1, .int p0)] := hl
  refine lv_aload_n hx hb dX10_read_0 rfl (lv_at hl 0 rfl) ?_
  refine lv_iconst (v := 1) hx hb dX10_read_1 (by decide) ?_
  refine lv_aload_n hx hb dX10_read_2 rfl (lv_at hl 0 rfl) ?_
  refine lv_iload_n hx hb dX10_read_3 rfl (lv_at hl 1 rfl) ?_
  refine fz_cVi (As := [.int p0]) (rest := [.int 1, .ref (q 0)]) S0 (m_isNode l A D k q f pa v p0 g_f_1_0 g_f_1_7) (fz_cwV (C := RX10) 1 hts fm_481 fm_482 fm_483 fm_484 fm_469 rfl rfl ⟨by decide, by decide, by decide +kernel⟩ ⟨Nat.le_of_ble_eq_true rfl, Nat.le_of_ble_eq_true rfl⟩) (va_recv hK hP (ci := 14) (q0 := 0) rfl rfl) (fun _ h9 => h9) (fun a9 h9 => hA a9 (Nat.le_trans hS.1 h9)) hG hS hP hK hD rfl hl.1 rfl (Nat.le_of_ble_eq_true rfl) dX10_read_4 ⟨Nat.le_of_ble_eq_true rfl, Nat.le_of_ble_eq_true rfl⟩ (fun r_1 u_1 H locs hw hz1 hk1 hP hS => ?_)
  have hP : va_P D vwCl (fz_WM k q f pa v) H := hP
  rcases (show (r_1 = 1 ∧ p0 = 0) ∨ (r_1 = 0 ∧ ¬ (p0 = 0)) from hw) with ⟨rfl, hq_1⟩ | ⟨rfl, hq_1⟩
  · skip
    obtain rfl : p0 = 0 := (fq_27 p0 hq_1)
    refine lv_if_ne (tgt := 14) hx hb dX10_read_7 (by decide) (fun c_2 => ?_) (fun c_2 => absurd c_2 (by decide))
    refine lv_iconst (v := 0) hx hb dX10_read_14 (by decide) ?_
    refine fz_cVi (As := [.int 1, .int 0]) (rest := []) S0 (m_fails0 l A D k q f pa v 1) (fz_cwV (C := RX10) 2 hts fm_553 fm_554 fm_555 fm_556 fm_469 rfl rfl ⟨by decide, by decide, by decide +kernel⟩ ⟨Nat.le_of_ble_eq_true rfl, Nat.le_of_ble_eq_true rfl⟩) (va_recv hK hP (ci := 14) (q0 := 0) rfl rfl) (fun _ h9 => h9) (fun a9 h9 => hA a9 (Nat.le_trans hS.1 h9)) hG hS hP hK hD rfl hl.1 rfl (Nat.le_of_ble_eq_true rfl) dX10_read_15 ⟨Nat.le_of_ble_eq_true rfl, Nat.le_of_ble_eq_true rfl⟩ (fun r_3 u_3 H locs hw hz1 hk1 hP hS => ?_)
    have hP : va_P D vwCl (fz_WM k q f pa (va_up v 0 0)) H := hP
    have hD : va_D A (fz_WM k q f pa (va_up v 0 0)) := fz_Dsame hD rfl
    obtain rfl : r_3 = 0 := hw
    refine lv_if_eq (tgt := 23) hx hb dX10_read_18 (by decide) (fun c_4 => ?_) (fun c_4 => absurd (by decide) c_4)
    refine lv_aload_n hx hb dX10_read_23 rfl (lv_at hl 0 rfl) ?_
    refine lv_iconst (v := 0) hx hb dX10_read_24 (by decide) ?_
    refine va_put (D := D) (ci := 14) (v := .int 0) (ty := .int) (C := RX10) (T := TX10) (N := 22) hx hb hts (fun w9 h9 => fz_m (fin_X10 w9 h9)) tyX10 tyX10_ok nmX10 hown hK hP hD hS 0 rfl rfl 16 (by decide) (hts _ (fz_m fm_537)) (fun _ h9 => h9) rfl (by decide +kernel) rfl rfl (Nat.le_of_ble_eq_true rfl) dX10_read_25 (fun H locs hP hD hS => ?_)
    have hP : va_P D vwCl (fz_WM k q f pa (va_up (va_up v 0 0) 16 0)) H := hP
    have hD : va_D A (fz_WM k q f pa (va_up (va_up v 0 0) 16 0)) := hD
    refine lv_aload_n hx hb dX10_read_28 rfl (lv_at hl 0 rfl) ?_
    refine lv_iconst (v := 0) hx hb dX10_read_29 (by decide) ?_
    refine va_put (D := D) (ci := 14) (v := .int 0) (ty := .boolean) (C := RX10) (T := TX10) (N := 22) hx hb hts (fun w9 h9 => fz_m (fin_X10 w9 h9)) tyX10 tyX10_ok nmX10 hown hK hP hD hS 0 rfl rfl 18 (by decide) (hts _ (fz_m fm_536)) (fun _ h9 => h9) rfl (by decide +kernel) rfl rfl (Nat.le_of_ble_eq_true rfl) dX10_read_30 (fun H locs hP hD hS => ?_)
    have hP : va_P D vwCl (fz_WM k q f pa (va_up (va_up (va_up v 0 0) 16 0) 18 0)) H := hP
    have hD : va_D A (fz_WM k q f pa (va_up (va_up (va_up v 0 0) 16 0) 18 0)) := hD
    refine lv_aload_n hx hb dX10_read_33 rfl (lv_at hl 0 rfl) ?_
    refine lv_iload_n hx hb dX10_read_34 rfl (lv_at hl 1 rfl) ?_
    refine lv_iconst (v := 0) hx hb dX10_read_35 (by decide) ?_
    refine fz_cVv (As := [.int 0, .int 0]) (rest := []) S0 (m_passNode l A D k q f pa (va_up (va_up (va_up v 0 0) 16 0) 18 0) rfl rfl g_v_15) (fz_cwV (C := RX10) 2 hts fm_638 fm_639 fm_640 fm_641 fm_469 rfl rfl ⟨by decide, by decide, by decide +kernel⟩ ⟨Nat.le_of_ble_eq_true rfl, Nat.le_of_ble_eq_true rfl⟩) (va_recv hK hP (ci := 14) (q0 := 0) rfl rfl) (fun _ h9 => h9) (fun a9 h9 => hA a9 (Nat.le_trans hS.1 h9)) hG hS hP hK hD rfl hl.1 rfl (Nat.le_of_ble_eq_true rfl) dX10_read_36 ⟨Nat.le_of_ble_eq_true rfl, Nat.le_of_ble_eq_true rfl⟩ (fun u_5 H locs hw hz1 hk1 hP hS => ?_)
    have hP : va_P D vwCl (fz_WM k q f pa (va_up (va_up (va_up v 0 0) 16 0) 18 1)) H := hP
    have hD : va_D A (fz_WM k q f pa (va_up (va_up (va_up v 0 0) 16 0) 18 1)) := fz_Dsame hD rfl
    refine lv_aload_n hx hb dX10_read_39 rfl (lv_at hl 0 rfl) ?_
    refine lv_dup hx hb dX10_read_40 rfl ?_
    refine va_get (D := D) (ci := 14) (v := .int ((va_up (va_up (va_up v 0 0) 16 0) 18 1) 18)) (C := RX10) (T := TX10) (N := 22) hx hb hts (fun w9 h9 => fz_m (fin_X10 w9 h9)) hown hK hP 0 rfl rfl 18 (by decide) (hts _ (fz_m fm_536)) (fun _ h9 => h9) rfl dX10_read_41 ?_
    refine fz_I (y := 1) rfl ?_
    refine lv_aload_n hx hb dX10_read_44 rfl (lv_at hl 0 rfl) ?_
    refine va_get (D := D) (ci := 14) (v := .int ((va_up (va_up (va_up v 0 0) 16 0) 18 1) 16)) (C := RX10) (T := TX10) (N := 22) hx hb hts (fun w9 h9 => fz_m (fin_X10 w9 h9)) hown hK hP 0 rfl rfl 16 (by decide) (hts _ (fz_m fm_537)) (fun _ h9 => h9) rfl dX10_read_45 ?_
    refine fz_I (y := 0) rfl ?_
    refine lv_aload_n hx hb dX10_read_48 rfl (lv_at hl 0 rfl) ?_
    refine va_get (D := D) (ci := 14) (v := .int ((va_up (va_up (va_up v 0 0) 16 0) 18 1) 15)) (C := RX10) (T := TX10) (N := 22) hx hb hts (fun w9 h9 => fz_m (fin_X10 w9 h9)) hown hK hP 0 rfl rfl 15 (by decide) (hts _ (fz_m fm_538)) (fun _ h9 => h9) rfl dX10_read_49 ?_
    refine fz_I (y := 0) g_v_15 ?_
    refine lv_icmp_ge (tgt := 59) hx hb dX10_read_52 (by decide) (fun c_6 => ?_) (fun c_6 => absurd (by decide) c_6)
    refine lv_iconst (v := 0) hx hb dX10_read_59 (by decide) ?_
    refine lv_ior hx hb dX10_read_60 ?_
    refine fz_I (y := 1) (by decide) ?_
    refine va_put (D := D) (ci := 14) (v := .int 1) (ty := .boolean) (C := RX10) (T := TX10) (N := 22) hx hb hts (fun w9 h9 => fz_m (fin_X10 w9 h9)) tyX10 tyX10_ok nmX10 hown hK hP hD hS 0 rfl rfl 18 (by decide) (hts _ (fz_m fm_536)) (fun _ h9 => h9) rfl (by decide +kernel) rfl rfl (Nat.le_of_ble_eq_true rfl) dX10_read_61 (fun H locs hP hD hS => ?_)
    have hP : va_P D vwCl (fz_WM k q f pa (va_up (va_up (va_up v 0 0) 16 0) 18 1)) H := hP
    have hD : va_D A (fz_WM k q f pa (va_up (va_up (va_up v 0 0) 16 0) 18 1)) := hD
    refine lv_aload_n hx hb dX10_read_64 rfl (lv_at hl 0 rfl) ?_
    refine va_get (D := D) (ci := 14) (v := .int ((va_up (va_up (va_up v 0 0) 16 0) 18 1) 18)) (C := RX10) (T := TX10) (N := 22) hx hb hts (fun w9 h9 => fz_m (fin_X10 w9 h9)) hown hK hP 0 rfl rfl 18 (by decide) (hts _ (fz_m fm_536)) (fun _ h9 => h9) rfl dX10_read_65 ?_
    refine fz_I (y := 1) rfl ?_
    refine lv_if_eq (tgt := 84) hx hb dX10_read_68 (by decide) (fun c_7 => absurd c_7 (by decide)) (fun c_7 => ?_)
    refine lv_aload_n hx hb dX10_read_71 rfl (lv_at hl 0 rfl) ?_
    refine lv_iconst (v := 0) hx hb dX10_read_72 (by decide) ?_
    refine va_put (D := D) (ci := 14) (v := .int 0) (ty := .int) (C := RX10) (T := TX10) (N := 22) hx hb hts (fun w9 h9 => fz_m (fin_X10 w9 h9)) tyX10 tyX10_ok nmX10 hown hK hP hD hS 0 rfl rfl 15 (by decide) (hts _ (fz_m fm_538)) (fun _ h9 => h9) rfl (by decide +kernel) rfl rfl (Nat.le_of_ble_eq_true rfl) dX10_read_73 (fun H locs hP hD hS => ?_)
    have hP : va_P D vwCl (fz_WM k q f pa (va_up (va_up (va_up (va_up v 0 0) 16 0) 18 1) 15 0)) H := hP
    have hD : va_D A (fz_WM k q f pa (va_up (va_up (va_up (va_up v 0 0) 16 0) 18 1) 15 0)) := hD
    refine lv_bipush (v := (-100)) hx hb dX10_read_76 (by decide) ?_
    refine lv_aload_n hx hb dX10_read_78 rfl (lv_at hl 0 rfl) ?_
    refine va_get (D := D) (ci := 14) (v := .int ((va_up (va_up (va_up (va_up v 0 0) 16 0) 18 1) 15 0) 16)) (C := RX10) (T := TX10) (N := 22) hx hb hts (fun w9 h9 => fz_m (fin_X10 w9 h9)) hown hK hP 0 rfl rfl 16 (by decide) (hts _ (fz_m fm_537)) (fun _ h9 => h9) rfl dX10_read_79 ?_
    refine fz_I (y := 0) rfl ?_
    refine lv_isub hx hb dX10_read_82 ?_
    refine fz_I (y := (-100)) (by decide) ?_
    have hP : va_P D vwCl (fz_MO q (va_up (va_up (va_up (va_up v 0 0) 16 0) 18 1) 15 0)) H := hP.sub [0] rfl
    exact fz_iret hx hb hr rfl hlocks hS dX10_read_83 (va_up (va_up (va_up (va_up v 0 0) 16 0) 18 1) 15 0) (Or.inr ⟨rfl, rfl, (fq_3 )⟩) hP (Nat.le_of_ble_eq_true rfl) (Nat.le_of_ble_eq_true rfl)
  · skip
    refine lv_if_ne (tgt := 14) hx hb dX10_read_7 (by decide) (fun c_8 => absurd (by decide) c_8) (fun c_8 => ?_)
    refine lv_iconst (v := 1) hx hb dX10_read_10 (by decide) ?_
    refine lv_goto (tgt := 15) hx hb dX10_read_11 (by decide) ?_
    refine fz_cVi (As := [.int 1, .int 1]) (rest := []) S0 (m_fails1 l A D k q f pa v 1) (fz_cwV (C := RX10) 2 hts fm_553 fm_554 fm_555 fm_556 fm_469 rfl rfl ⟨by decide, by decide, by decide +kernel⟩ ⟨Nat.le_of_ble_eq_true rfl, Nat.le_of_ble_eq_true rfl⟩) (va_recv hK hP (ci := 14) (q0 := 0) rfl rfl) (fun _ h9 => h9) (fun a9 h9 => hA a9 (Nat.le_trans hS.1 h9)) hG hS hP hK hD rfl hl.1 rfl (Nat.le_of_ble_eq_true rfl) dX10_read_15 ⟨Nat.le_of_ble_eq_true rfl, Nat.le_of_ble_eq_true rfl⟩ (fun r_9 u_9 H locs hw hz1 hk1 hP hS => ?_)
    have hP : va_P D vwCl (fz_WM k q f pa (va_up v 0 1)) H := hP
    have hD : va_D A (fz_WM k q f pa (va_up v 0 1)) := fz_Dsame hD rfl
    obtain rfl : r_9 = 1 := hw
    refine lv_if_eq (tgt := 23) hx hb dX10_read_18 (by decide) (fun c_10 => absurd c_10 (by decide)) (fun c_10 => ?_)
    refine lv_iconst (v := 0) hx hb dX10_read_21 (by decide) ?_
    have hP : va_P D vwCl (fz_MO q (va_up v 0 1)) H := hP.sub [0] rfl
    exact fz_iret hx hb hr rfl hlocks hS dX10_read_22 (va_up v 0 1) (Or.inl ⟨rfl, rfl, (fq_28 p0 hq_1)⟩) hP (Nat.le_of_ble_eq_true rfl) (Nat.le_of_ble_eq_true rfl)

set_option maxHeartbeats 4000000 in
set_option maxRecDepth 100000 in
theorem m_p_write (l : Launch) (A : Nat → Prop) (D : va_G) (k : Nat → ClassId) (q : Nat → Nat) (f : Nat → Nat → Int32) (pa : Nat → Option Nat) (v : Nat → Int32) (p0 : Int32) (g_f_1_0 : f 1 0 = 1) (g_f_1_7 : f 1 7 = 1) (g_f_1_8 : f 1 8 = 0) (g_f_1_10 : f 1 10 = 0) (g_f_1_11 : f 1 11 = (-1))  :
    Met l yX10_write (fz_ws yX10_write cX10_write 2 (some .int)) { frames := 36, cells := 0, slots := 0, locals := 480 } (va_Pc [.ref (q 0), .int p0] (fz_PC A D (fz_tys k) (fz_WM k q f pa v))) (fz_QI D A (fun (u : Nat → Int32) => fz_MO q u) (fun (r : Int32) (u : Nat → Int32) => (r = 0 ∧ u 0 = 1 ∧ ¬ (p0 = 0)) ∨ (r = 1 ∧ u 0 = 0 ∧ p0 = 0))) 0 0 A := by
  refine fz_of (by decide +kernel) (Nat.le_of_ble_eq_true rfl) ?_
  intro p e s m below meth c hx hb hr hml hown hlocks hts hin hA hP hK hD hG hS ls hl
  have hown : s.vm.findClass RX10 = some m.cls := hown
  have S0 : CallFix p m c cX10_write 2 s [.ref (q 0), .int p0].toArray (fz_ws yX10_write cX10_write 2 (some .int)) RX10 := ⟨hx, hb, hml, hown, hts⟩
  have hl : lv_has ls 2 [(0, .ref (q 0)), (1, .int p0)] := hl
  refine lv_aload_n hx hb dX10_write_0 rfl (lv_at hl 0 rfl) ?_
  refine lv_iconst (v := 1) hx hb dX10_write_1 (by decide) ?_
  refine lv_aload_n hx hb dX10_write_2 rfl (lv_at hl 0 rfl) ?_
  refine lv_iload_n hx hb dX10_write_3 rfl (lv_at hl 1 rfl) ?_
  refine fz_cVi (As := [.int p0]) (rest := [.int 1, .ref (q 0)]) S0 (m_isNode l A D k q f pa v p0 g_f_1_0 g_f_1_7) (fz_cwV (C := RX10) 1 hts fm_481 fm_482 fm_483 fm_484 fm_469 rfl rfl ⟨by decide, by decide, by decide +kernel⟩ ⟨Nat.le_of_ble_eq_true rfl, Nat.le_of_ble_eq_true rfl⟩) (va_recv hK hP (ci := 14) (q0 := 0) rfl rfl) (fun _ h9 => h9) (fun a9 h9 => hA a9 (Nat.le_trans hS.1 h9)) hG hS hP hK hD rfl hl.1 rfl (Nat.le_of_ble_eq_true rfl) dX10_write_4 ⟨Nat.le_of_ble_eq_true rfl, Nat.le_of_ble_eq_true rfl⟩ (fun r_1 u_1 H locs hw hz1 hk1 hP hS => ?_)
  have hP : va_P D vwCl (fz_WM k q f pa v) H := hP
  rcases (show (r_1 = 1 ∧ p0 = 0) ∨ (r_1 = 0 ∧ ¬ (p0 = 0)) from hw) with ⟨rfl, hq_1⟩ | ⟨rfl, hq_1⟩
  · skip
    obtain rfl : p0 = 0 := (fq_27 p0 hq_1)
    refine lv_if_ne (tgt := 14) hx hb dX10_write_7 (by decide) (fun c_2 => ?_) (fun c_2 => absurd c_2 (by decide))
    refine lv_iconst (v := 0) hx hb dX10_write_14 (by decide) ?_
    refine fz_cVi (As := [.int 1, .int 0]) (rest := []) S0 (m_fails0 l A D k q f pa v 1) (fz_cwV (C := RX10) 2 hts fm_553 fm_554 fm_555 fm_556 fm_469 rfl rfl ⟨by decide, by decide, by decide +kernel⟩ ⟨Nat.le_of_ble_eq_true rfl, Nat.le_of_ble_eq_true rfl⟩) (va_recv hK hP (ci := 14) (q0 := 0) rfl rfl) (fun _ h9 => h9) (fun a9 h9 => hA a9 (Nat.le_trans hS.1 h9)) hG hS hP hK hD rfl hl.1 rfl (Nat.le_of_ble_eq_true rfl) dX10_write_15 ⟨Nat.le_of_ble_eq_true rfl, Nat.le_of_ble_eq_true rfl⟩ (fun r_3 u_3 H locs hw hz1 hk1 hP hS => ?_)
    have hP : va_P D vwCl (fz_WM k q f pa (va_up v 0 0)) H := hP
    have hD : va_D A (fz_WM k q f pa (va_up v 0 0)) := fz_Dsame hD rfl
    obtain rfl : r_3 = 0 := hw
    refine lv_if_eq (tgt := 23) hx hb dX10_write_18 (by decide) (fun c_4 => ?_) (fun c_4 => absurd (by decide) c_4)
    refine lv_aload_n hx hb dX10_write_23 rfl (lv_at hl 0 rfl) ?_
    refine lv_iconst (v := 0) hx hb dX10_write_24 (by decide) ?_
    refine va_put (D := D) (ci := 14) (v := .int 0) (ty := .int) (C := RX10) (T := TX10) (N := 22) hx hb hts (fun w9 h9 => fz_m (fin_X10 w9 h9)) tyX10 tyX10_ok nmX10 hown hK hP hD hS 0 rfl rfl 21 (by decide) (hts _ (fz_m fm_544)) (fun _ h9 => h9) rfl (by decide +kernel) rfl rfl (Nat.le_of_ble_eq_true rfl) dX10_write_25 (fun H locs hP hD hS => ?_)
    have hP : va_P D vwCl (fz_WM k q f pa (va_up (va_up v 0 0) 21 0)) H := hP
    have hD : va_D A (fz_WM k q f pa (va_up (va_up v 0 0) 21 0)) := hD
    refine lv_aload_n hx hb dX10_write_28 rfl (lv_at hl 0 rfl) ?_
    refine lv_iload_n hx hb dX10_write_29 rfl (lv_at hl 1 rfl) ?_
    refine fz_cVv (As := [.int 0]) (rest := []) S0 (m_writeNode l A D k q f pa (va_up (va_up v 0 0) 21 0) g_f_1_8 rfl g_f_1_10 g_f_1_11 g_f_1_0) (fz_cwV (C := RX10) 1 hts fm_642 fm_643 fm_644 fm_645 fm_469 rfl rfl ⟨by decide, by decide, by decide +kernel⟩ ⟨Nat.le_of_ble_eq_true rfl, Nat.le_of_ble_eq_true rfl⟩) (va_recv hK hP (ci := 14) (q0 := 0) rfl rfl) (fun _ h9 => h9) (fun a9 h9 => hA a9 (Nat.le_trans hS.1 h9)) hG hS hP hK hD rfl hl.1 rfl (Nat.le_of_ble_eq_true rfl) dX10_write_30 ⟨Nat.le_of_ble_eq_true rfl, Nat.le_of_ble_eq_true rfl⟩ (fun u_5 H locs hw hz1 hk1 hP hS => ?_)
    have hP : va_P D vwCl (fz_WM k q (va_up f 6 (upd (f 6) 0 48)) pa (va_up (va_up v 0 0) 21 1)) H := hP
    have hD : va_D A (fz_WM k q (va_up f 6 (upd (f 6) 0 48)) pa (va_up (va_up v 0 0) 21 1)) := fz_Dsame hD rfl
    refine lv_aload_n hx hb dX10_write_33 rfl (lv_at hl 0 rfl) ?_
    refine va_get (D := D) (ci := 14) (v := .int ((va_up (va_up v 0 0) 21 1) 21)) (C := RX10) (T := TX10) (N := 22) hx hb hts (fun w9 h9 => fz_m (fin_X10 w9 h9)) hown hK hP 0 rfl rfl 21 (by decide) (hts _ (fz_m fm_544)) (fun _ h9 => h9) rfl dX10_write_34 ?_
    refine fz_I (y := 1) rfl ?_
    have hP : va_P D vwCl (fz_MO q (va_up (va_up v 0 0) 21 1)) H := hP.sub [0] rfl
    exact fz_iret hx hb hr rfl hlocks hS dX10_write_37 (va_up (va_up v 0 0) 21 1) (Or.inr ⟨rfl, rfl, (fq_3 )⟩) hP (Nat.le_of_ble_eq_true rfl) (Nat.le_of_ble_eq_true rfl)
  · skip
    refine lv_if_ne (tgt := 14) hx hb dX10_write_7 (by decide) (fun c_6 => absurd (by decide) c_6) (fun c_6 => ?_)
    refine lv_iconst (v := 1) hx hb dX10_write_10 (by decide) ?_
    refine lv_goto (tgt := 15) hx hb dX10_write_11 (by decide) ?_
    refine fz_cVi (As := [.int 1, .int 1]) (rest := []) S0 (m_fails1 l A D k q f pa v 1) (fz_cwV (C := RX10) 2 hts fm_553 fm_554 fm_555 fm_556 fm_469 rfl rfl ⟨by decide, by decide, by decide +kernel⟩ ⟨Nat.le_of_ble_eq_true rfl, Nat.le_of_ble_eq_true rfl⟩) (va_recv hK hP (ci := 14) (q0 := 0) rfl rfl) (fun _ h9 => h9) (fun a9 h9 => hA a9 (Nat.le_trans hS.1 h9)) hG hS hP hK hD rfl hl.1 rfl (Nat.le_of_ble_eq_true rfl) dX10_write_15 ⟨Nat.le_of_ble_eq_true rfl, Nat.le_of_ble_eq_true rfl⟩ (fun r_7 u_7 H locs hw hz1 hk1 hP hS => ?_)
    have hP : va_P D vwCl (fz_WM k q f pa (va_up v 0 1)) H := hP
    have hD : va_D A (fz_WM k q f pa (va_up v 0 1)) := fz_Dsame hD rfl
    obtain rfl : r_7 = 1 := hw
    refine lv_if_eq (tgt := 23) hx hb dX10_write_18 (by decide) (fun c_8 => absurd c_8 (by decide)) (fun c_8 => ?_)
    refine lv_iconst (v := 0) hx hb dX10_write_21 (by decide) ?_
    have hP : va_P D vwCl (fz_MO q (va_up v 0 1)) H := hP.sub [0] rfl
    exact fz_iret hx hb hr rfl hlocks hS dX10_write_22 (va_up v 0 1) (Or.inl ⟨rfl, rfl, (fq_28 p0 hq_1)⟩) hP (Nat.le_of_ble_eq_true rfl) (Nat.le_of_ble_eq_true rfl)

set_option maxHeartbeats 4000000 in
set_option maxRecDepth 100000 in
theorem m_p_text (l : Launch) (A : Nat → Prop) (D : va_G) (k : Nat → ClassId) (q : Nat → Nat) (f : Nat → Nat → Int32) (pa : Nat → Option Nat) (v : Nat → Int32) (p0 : Int32) (g_v_21 : v 21 = 0)  :
    Met l yX10_text (fz_ws yX10_text cX10_text 2 (some .char)) { frames := 12, cells := 0, slots := 0, locals := 160 } (va_Pc [.ref (q 0), .int p0] (fz_PC A D (fz_tys k) (fz_WM k q f pa v))) (fz_QI D A (fun (u : Nat → Int32) => fz_MO q u) (fun (r : Int32) (u : Nat → Int32) => (r = 97 ∧ u 0 = 1 ∧ True))) 0 0 A := by
  refine fz_of (by decide +kernel) (Nat.le_of_ble_eq_true rfl) ?_
  intro p e s m below meth c hx hb hr hml hown hlocks hts hin hA hP hK hD hG hS ls hl
  have hown : s.vm.findClass RX10 = some m.cls := hown
  have S0 : CallFix p m c cX10_text 2 s [.ref (q 0), .int p0].toArray (fz_ws yX10_text cX10_text 2 (some .char)) RX10 := ⟨hx, hb, hml, hown, hts⟩
  have hl : lv_has ls 2 [(0, .ref (q 0)), (1, .int p0)] := hl
  refine lv_aload_n hx hb dX10_text_0 rfl (lv_at hl 0 rfl) ?_
  refine lv_iconst (v := 1) hx hb dX10_text_1 (by decide) ?_
  refine lv_iload_n hx hb dX10_text_2 rfl (lv_at hl 1 rfl) ?_
  refine lv_iconst (v := 0) hx hb dX10_text_3 (by decide) ?_
  refine lv_aload_n hx hb dX10_text_4 rfl (lv_at hl 0 rfl) ?_
  refine va_get (D := D) (ci := 14) (v := .int (v 21)) (C := RX10) (T := TX10) (N := 22) hx hb hts (fun w9 h9 => fz_m (fin_X10 w9 h9)) hown hK hP 0 rfl rfl 21 (by decide) (hts _ (fz_m fm_544)) (fun _ h9 => h9) rfl dX10_text_5 ?_
  refine fz_I (y := 0) g_v_21 ?_
  refine lv_iconst (v := 1) hx hb dX10_text_8 (by decide) ?_
  refine lv_isub hx hb dX10_text_9 ?_
  refine fz_I (y := (-1)) (by decide) ?_
  refine fz_cSi (As := [.int p0, .int 0, .int (-1)]) (rest := [.int 1, .ref (q 0)]) S0 (m_isBetween l A D k q f pa v p0 0 (-1)) (fz_cwS 3 hts fm_474 fm_475 fm_476 fm_469 rfl rfl ⟨by decide, by decide, by decide +kernel⟩ ⟨Nat.le_of_ble_eq_true rfl, Nat.le_of_ble_eq_true rfl⟩) (fun _ h9 => h9) (fun a9 h9 => hA a9 (Nat.le_trans hS.1 h9)) hG hS hP hK hD rfl hl.1 rfl (Nat.le_of_ble_eq_true rfl) dX10_text_10 ⟨Nat.le_of_ble_eq_true rfl, Nat.le_of_ble_eq_true rfl⟩ (fun r_1 u_1 H locs hw hz1 hk1 hP hS => ?_)
  have hP : va_P D vwCl (fz_WM k q f pa v) H := hP
  rcases (show (r_1 = 1 ∧ (0 ≤ p0 ∧ p0 ≤ (-1))) ∨ (r_1 = 0 ∧ ¬ ((0 ≤ p0 ∧ p0 ≤ (-1)))) from hw) with ⟨rfl, hq_1⟩ | ⟨rfl, hq_1⟩
  · skip
    exact (fq_113 p0 hq_1).elim
  · skip
    refine lv_if_ne (tgt := 20) hx hb dX10_text_13 (by decide) (fun c_2 => absurd (by decide) c_2) (fun c_2 => ?_)
    refine lv_iconst (v := 1) hx hb dX10_text_16 (by decide) ?_
    refine lv_goto (tgt := 21) hx hb dX10_text_17 (by decide) ?_
    refine fz_cVi (As := [.int 1, .int 1]) (rest := []) S0 (m_fails1 l A D k q f pa v 1) (fz_cwV (C := RX10) 2 hts fm_553 fm_554 fm_555 fm_556 fm_469 rfl rfl ⟨by decide, by decide, by decide +kernel⟩ ⟨Nat.le_of_ble_eq_true rfl, Nat.le_of_ble_eq_true rfl⟩) (va_recv hK hP (ci := 14) (q0 := 0) rfl rfl) (fun _ h9 => h9) (fun a9 h9 => hA a9 (Nat.le_trans hS.1 h9)) hG hS hP hK hD rfl hl.1 rfl (Nat.le_of_ble_eq_true rfl) dX10_text_21 ⟨Nat.le_of_ble_eq_true rfl, Nat.le_of_ble_eq_true rfl⟩ (fun r_3 u_3 H locs hw hz1 hk1 hP hS => ?_)
    have hP : va_P D vwCl (fz_WM k q f pa (va_up v 0 1)) H := hP
    have hD : va_D A (fz_WM k q f pa (va_up v 0 1)) := fz_Dsame hD rfl
    obtain rfl : r_3 = 1 := hw
    refine lv_if_eq (tgt := 32) hx hb dX10_text_24 (by decide) (fun c_4 => absurd c_4 (by decide)) (fun c_4 => ?_)
    refine lv_bipush (v := 97) hx hb dX10_text_27 (by decide) ?_
    refine lv_goto (tgt := 38) hx hb dX10_text_29 (by decide) ?_
    have hP : va_P D vwCl (fz_MO q (va_up v 0 1)) H := hP.sub [0] rfl
    exact fz_iret hx hb hr rfl hlocks hS dX10_text_38 (va_up v 0 1) ⟨rfl, rfl, trivial⟩ hP (Nat.le_of_ble_eq_true rfl) (Nat.le_of_ble_eq_true rfl)

set_option maxHeartbeats 4000000 in
set_option maxRecDepth 100000 in
theorem m_p_undo (l : Launch) (A : Nat → Prop) (D : va_G) (k : Nat → ClassId) (q : Nat → Nat) (f : Nat → Nat → Int32) (pa : Nat → Option Nat) (v : Nat → Int32) (g_v_5 : v 5 = 0)  :
    Met l yX10_undo (fz_ws yX10_undo cX10_undo 1 (some .int)) { frames := 12, cells := 0, slots := 0, locals := 160 } (va_Pc [.ref (q 0)] (fz_PC A D (fz_tys k) (fz_WM k q f pa v))) (fz_QI D A (fun (u : Nat → Int32) => fz_MO q u) (fun (r : Int32) (u : Nat → Int32) => (r = 0 ∧ u 0 = 1 ∧ True))) 0 0 A := by
  refine fz_of (by decide +kernel) (Nat.le_of_ble_eq_true rfl) ?_
  intro p e s m below meth c hx hb hr hml hown hlocks hts hin hA hP hK hD hG hS ls hl
  have hown : s.vm.findClass RX10 = some m.cls := hown
  have S0 : CallFix p m c cX10_undo 1 s [.ref (q 0)].toArray (fz_ws yX10_undo cX10_undo 1 (some .int)) RX10 := ⟨hx, hb, hml, hown, hts⟩
  have hl : lv_has ls 1 [(0, .ref (q 0))] := hl
  refine lv_aload_n hx hb dX10_undo_0 rfl (lv_at hl 0 rfl) ?_
  refine lv_iconst (v := 1) hx hb dX10_undo_1 (by decide) ?_
  refine lv_aload_n hx hb dX10_undo_2 rfl (lv_at hl 0 rfl) ?_
  refine va_get (D := D) (ci := 14) (v := .int (v 5)) (C := RX10) (T := TX10) (N := 22) hx hb hts (fun w9 h9 => fz_m (fin_X10 w9 h9)) hown hK hP 0 rfl rfl 5 (by decide) (hts _ (fz_m fm_464)) (fun _ h9 => h9) rfl dX10_undo_3 ?_
  refine fz_I (y := 0) g_v_5 ?_
  refine lv_if_ne (tgt := 13) hx hb dX10_undo_6 (by decide) (fun c_1 => absurd (by decide) c_1) (fun c_1 => ?_)
  refine lv_iconst (v := 1) hx hb dX10_undo_9 (by decide) ?_
  refine lv_goto (tgt := 14) hx hb dX10_undo_10 (by decide) ?_
  refine fz_cVi (As := [.int 1, .int 1]) (rest := []) S0 (m_fails1 l A D k q f pa v 1) (fz_cwV (C := RX10) 2 hts fm_553 fm_554 fm_555 fm_556 fm_469 rfl rfl ⟨by decide, by decide, by decide +kernel⟩ ⟨Nat.le_of_ble_eq_true rfl, Nat.le_of_ble_eq_true rfl⟩) (va_recv hK hP (ci := 14) (q0 := 0) rfl rfl) (fun _ h9 => h9) (fun a9 h9 => hA a9 (Nat.le_trans hS.1 h9)) hG hS hP hK hD rfl hl.1 rfl (Nat.le_of_ble_eq_true rfl) dX10_undo_14 ⟨Nat.le_of_ble_eq_true rfl, Nat.le_of_ble_eq_true rfl⟩ (fun r_2 u_2 H locs hw hz1 hk1 hP hS => ?_)
  have hP : va_P D vwCl (fz_WM k q f pa (va_up v 0 1)) H := hP
  have hD : va_D A (fz_WM k q f pa (va_up v 0 1)) := fz_Dsame hD rfl
  obtain rfl : r_2 = 1 := hw
  refine lv_if_eq (tgt := 22) hx hb dX10_undo_17 (by decide) (fun c_3 => absurd c_3 (by decide)) (fun c_3 => ?_)
  refine lv_iconst (v := 0) hx hb dX10_undo_20 (by decide) ?_
  have hP : va_P D vwCl (fz_MO q (va_up v 0 1)) H := hP.sub [0] rfl
  exact fz_iret hx hb hr rfl hlocks hS dX10_undo_21 (va_up v 0 1) ⟨rfl, rfl, trivial⟩ hP (Nat.le_of_ble_eq_true rfl) (Nat.le_of_ble_eq_true rfl)

set_option maxHeartbeats 4000000 in
set_option maxRecDepth 100000 in
theorem m_p_save (l : Launch) (A : Nat → Prop) (D : va_G) (k : Nat → ClassId) (q : Nat → Nat) (f : Nat → Nat → Int32) (pa : Nat → Option Nat) (v : Nat → Int32) (g_f_1_0 : f 1 0 = 1) (g_f_1_7 : f 1 7 = 1)  :
    Met l yX10_save (fz_ws yX10_save cX10_save 1 (some .int)) { frames := 36, cells := 0, slots := 0, locals := 480 } (va_Pc [.ref (q 0)] (fz_PC A D (fz_tys k) (fz_WM k q f pa v))) (fz_QI D A (fun (u : Nat → Int32) => fz_MO q u) (fun (r : Int32) (u : Nat → Int32) => (r = 1 ∧ u 0 = 0 ∧ True))) 0 0 A := by
  refine fz_of (by decide +kernel) (Nat.le_of_ble_eq_true rfl) ?_
  intro p e s m below meth c hx hb hr hml hown hlocks hts hin hA hP hK hD hG hS ls hl
  have hown : s.vm.findClass RX10 = some m.cls := hown
  have S0 : CallFix p m c cX10_save 1 s [.ref (q 0)].toArray (fz_ws yX10_save cX10_save 1 (some .int)) RX10 := ⟨hx, hb, hml, hown, hts⟩
  have hl : lv_has ls 1 [(0, .ref (q 0))] := hl
  refine lv_aload_n hx hb dX10_save_0 rfl (lv_at hl 0 rfl) ?_
  refine lv_iconst (v := 0) hx hb dX10_save_1 (by decide) ?_
  refine va_put (D := D) (ci := 14) (v := .int 0) (ty := .int) (C := RX10) (T := TX10) (N := 22) hx hb hts (fun w9 h9 => fz_m (fin_X10 w9 h9)) tyX10 tyX10_ok nmX10 hown hK hP hD hS 0 rfl rfl 0 (by decide) (hts _ (fz_m fm_463)) (fun _ h9 => h9) rfl (by decide +kernel) rfl rfl (Nat.le_of_ble_eq_true rfl) dX10_save_2 (fun H locs hP hD hS => ?_)
  have hP : va_P D vwCl (fz_WM k q f pa (va_up v 0 0)) H := hP
  have hD : va_D A (fz_WM k q f pa (va_up v 0 0)) := hD
  refine lv_aload_n hx hb dX10_save_5 rfl (lv_at hl 0 rfl) ?_
  refine lv_iconst (v := 1) hx hb dX10_save_6 (by decide) ?_
  refine va_put (D := D) (ci := 14) (v := .int 1) (ty := .boolean) (C := RX10) (T := TX10) (N := 22) hx hb hts (fun w9 h9 => fz_m (fin_X10 w9 h9)) tyX10 tyX10_ok nmX10 hown hK hP hD hS 0 rfl rfl 6 (by decide) (hts _ (fz_m fm_646)) (fun _ h9 => h9) rfl (by decide +kernel) rfl rfl (Nat.le_of_ble_eq_true rfl) dX10_save_7 (fun H locs hP hD hS => ?_)
  have hP : va_P D vwCl (fz_WM k q f pa (va_up (va_up v 0 0) 6 1)) H := hP
  have hD : va_D A (fz_WM k q f pa (va_up (va_up v 0 0) 6 1)) := hD
  refine lv_aload_n hx hb dX10_save_10 rfl (lv_at hl 0 rfl) ?_
  refine va_get (D := D) (ci := 14) (v := .ref (q 1)) (C := RX10) (T := TX10) (N := 22) hx hb hts (fun w9 h9 => fz_m (fin_X10 w9 h9)) hown hK hP 0 rfl rfl 1 (by decide) (hts _ (fz_m fm_462)) (fun _ h9 => h9) rfl dX10_save_11 ?_
  refine lv_aload_n hx hb dX10_save_14 rfl (lv_at hl 0 rfl) ?_
  refine va_get (D := D) (ci := 14) (v := .ref (q 2)) (C := RX10) (T := TX10) (N := 22) hx hb hts (fun w9 h9 => fz_m (fin_X10 w9 h9)) hown hK hP 0 rfl rfl 2 (by decide) (hts _ (fz_m fm_647)) (fun _ h9 => h9) rfl dX10_save_15 ?_
  refine fz_cSv (As := [.ref (q 1), .ref (q 2)]) (rest := []) S0 (m_copyRow12 l A D k q f pa (va_up (va_up v 0 0) 6 1) ) (fz_cwS 2 hts fm_466 fm_467 fm_468 fm_469 rfl rfl ⟨by decide, by decide, by decide +kernel⟩ ⟨Nat.le_of_ble_eq_true rfl, Nat.le_of_ble_eq_true rfl⟩) (fun _ h9 => h9) (fun a9 h9 => hA a9 (Nat.le_trans hS.1 h9)) hG hS hP hK hD rfl hl.1 rfl (Nat.le_of_ble_eq_true rfl) dX10_save_18 ⟨Nat.le_of_ble_eq_true rfl, Nat.le_of_ble_eq_true rfl⟩ (fun u_1 H locs hw hz1 hk1 hP hS => ?_)
  have hP : va_P D vwCl (fz_WM k q (va_up f 2 u_1) pa (va_up (va_up v 0 0) 6 1)) H := hP
  have hD : va_D A (fz_WM k q (va_up f 2 u_1) pa (va_up (va_up v 0 0) 6 1)) := fz_Dsame hD rfl
  refine lv_aload_n hx hb dX10_save_21 rfl (lv_at hl 0 rfl) ?_
  refine lv_iconst (v := 0) hx hb dX10_save_22 (by decide) ?_
  refine fz_cVi (As := [.int 0]) (rest := []) S0 (m_countBelow l A D k q (va_up f 2 u_1) pa (va_up (va_up v 0 0) 6 1) g_f_1_0 g_f_1_7) (fz_cwV (C := RX10) 1 hts fm_573 fm_574 fm_575 fm_576 fm_469 rfl rfl ⟨by decide, by decide, by decide +kernel⟩ ⟨Nat.le_of_ble_eq_true rfl, Nat.le_of_ble_eq_true rfl⟩) (va_recv hK hP (ci := 14) (q0 := 0) rfl rfl) (fun _ h9 => h9) (fun a9 h9 => hA a9 (Nat.le_trans hS.1 h9)) hG hS hP hK hD rfl hl.1 rfl (Nat.le_of_ble_eq_true rfl) dX10_save_23 ⟨Nat.le_of_ble_eq_true rfl, Nat.le_of_ble_eq_true rfl⟩ (fun r_2 u_2 H locs hw hz1 hk1 hP hS => ?_)
  have hP : va_P D vwCl (fz_WM k q (va_up f 2 u_1) pa (va_up (va_up v 0 0) 6 1)) H := hP
  obtain rfl : r_2 = 0 := hw
  refine lv_iconst (v := 1) hx hb dX10_save_26 (by decide) ?_
  refine lv_iadd hx hb dX10_save_27 ?_
  refine fz_I (y := 1) (by decide) ?_
  have hP : va_P D vwCl (fz_MO q (va_up (va_up v 0 0) 6 1)) H := hP.sub [0] rfl
  exact fz_iret hx hb hr rfl hlocks hS dX10_save_28 (va_up (va_up v 0 0) 6 1) ⟨rfl, rfl, trivial⟩ hP (Nat.le_of_ble_eq_true rfl) (Nat.le_of_ble_eq_true rfl)

set_option maxHeartbeats 4000000 in
set_option maxRecDepth 100000 in
theorem m_p_restore (l : Launch) (A : Nat → Prop) (D : va_G) (k : Nat → ClassId) (q : Nat → Nat) (f : Nat → Nat → Int32) (pa : Nat → Option Nat) (v : Nat → Int32) (g_v_6 : v 6 = 0)  :
    Met l yX10_restore (fz_ws yX10_restore cX10_restore 1 (some .int)) { frames := 12, cells := 0, slots := 0, locals := 160 } (va_Pc [.ref (q 0)] (fz_PC A D (fz_tys k) (fz_WM k q f pa v))) (fz_QI D A (fun (u : Nat → Int32) => fz_MO q u) (fun (r : Int32) (u : Nat → Int32) => (r = 0 ∧ u 0 = 1 ∧ True))) 0 0 A := by
  refine fz_of (by decide +kernel) (Nat.le_of_ble_eq_true rfl) ?_
  intro p e s m below meth c hx hb hr hml hown hlocks hts hin hA hP hK hD hG hS ls hl
  have hown : s.vm.findClass RX10 = some m.cls := hown
  have S0 : CallFix p m c cX10_restore 1 s [.ref (q 0)].toArray (fz_ws yX10_restore cX10_restore 1 (some .int)) RX10 := ⟨hx, hb, hml, hown, hts⟩
  have hl : lv_has ls 1 [(0, .ref (q 0))] := hl
  refine lv_aload_n hx hb dX10_restore_0 rfl (lv_at hl 0 rfl) ?_
  refine lv_iconst (v := 1) hx hb dX10_restore_1 (by decide) ?_
  refine lv_aload_n hx hb dX10_restore_2 rfl (lv_at hl 0 rfl) ?_
  refine va_get (D := D) (ci := 14) (v := .int (v 6)) (C := RX10) (T := TX10) (N := 22) hx hb hts (fun w9 h9 => fz_m (fin_X10 w9 h9)) hown hK hP 0 rfl rfl 6 (by decide) (hts _ (fz_m fm_646)) (fun _ h9 => h9) rfl dX10_restore_3 ?_
  refine fz_I (y := 0) g_v_6 ?_
  refine lv_if_ne (tgt := 13) hx hb dX10_restore_6 (by decide) (fun c_1 => absurd (by decide) c_1) (fun c_1 => ?_)
  refine lv_iconst (v := 1) hx hb dX10_restore_9 (by decide) ?_
  refine lv_goto (tgt := 14) hx hb dX10_restore_10 (by decide) ?_
  refine fz_cVi (As := [.int 1, .int 1]) (rest := []) S0 (m_fails1 l A D k q f pa v 1) (fz_cwV (C := RX10) 2 hts fm_553 fm_554 fm_555 fm_556 fm_469 rfl rfl ⟨by decide, by decide, by decide +kernel⟩ ⟨Nat.le_of_ble_eq_true rfl, Nat.le_of_ble_eq_true rfl⟩) (va_recv hK hP (ci := 14) (q0 := 0) rfl rfl) (fun _ h9 => h9) (fun a9 h9 => hA a9 (Nat.le_trans hS.1 h9)) hG hS hP hK hD rfl hl.1 rfl (Nat.le_of_ble_eq_true rfl) dX10_restore_14 ⟨Nat.le_of_ble_eq_true rfl, Nat.le_of_ble_eq_true rfl⟩ (fun r_2 u_2 H locs hw hz1 hk1 hP hS => ?_)
  have hP : va_P D vwCl (fz_WM k q f pa (va_up v 0 1)) H := hP
  have hD : va_D A (fz_WM k q f pa (va_up v 0 1)) := fz_Dsame hD rfl
  obtain rfl : r_2 = 1 := hw
  refine lv_if_eq (tgt := 22) hx hb dX10_restore_17 (by decide) (fun c_3 => absurd c_3 (by decide)) (fun c_3 => ?_)
  refine lv_iconst (v := 0) hx hb dX10_restore_20 (by decide) ?_
  have hP : va_P D vwCl (fz_MO q (va_up v 0 1)) H := hP.sub [0] rfl
  exact fz_iret hx hb hr rfl hlocks hS dX10_restore_21 (va_up v 0 1) ⟨rfl, rfl, trivial⟩ hP (Nat.le_of_ble_eq_true rfl) (Nat.le_of_ble_eq_true rfl)

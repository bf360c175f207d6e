set_option maxHeartbeats 4000000 in
set_option maxRecDepth 100000 in
theorem c_has (l : Launch) (A : Nat → Prop) (D : va_G) (k : Nat → ClassId) (q : Nat → Nat) (f : Nat → Nat → Int32) (pa : Nat → Option Nat) (v : Nat → Int32) (p0 : Int32) (g_v_1 : v 1 = 1) (g_f_4_0 : f 4 0 = 0)  :
    Met l yX8_has (fz_ws yX8_has cX8_has 2 (some .boolean)) { frames := 0, cells := 0, slots := 0, locals := 0 } (va_Pc [.ref (q 1), .int p0] (fz_PC A D (fz_tys k) (fz_WC k q f pa v))) (fz_QI D A (fun (_ : Unit) => fz_WC k q f pa v) (fun (r : Int32) (_ : Unit) => (r = 1 ∧ p0 = 0) ∨ (r = 0 ∧ ¬ (p0 = 0)))) 0 0 A := by
  refine fz_of (by decide +kernel) (Nat.le_of_ble_eq_true rfl) ?_
  intro p e s m below meth c hx hb hr hml hown hlocks hts hin hA hP hK hD hG hS ls hl
  have hown : s.vm.findClass RX8 = some m.cls := hown
  have S0 : CallFix p m c cX8_has 2 s [.ref (q 1), .int p0].toArray (fz_ws yX8_has cX8_has 2 (some .boolean)) RX8 := ⟨hx, hb, hml, hown, hts⟩
  have hl : lv_has ls 2 [(0, .ref (q 1)), (1, .int p0)] := hl
  refine lv_iload_n hx hb dX8_has_0 rfl (lv_at hl 1 rfl) ?_
  refine lv_if_lt (tgt := 26) hx hb dX8_has_1 (by decide) (fun c_1 => ?_) (fun c_1 => ?_)
  · skip
    refine lv_iconst (v := 0) hx hb dX8_has_26 (by decide) ?_
    exact fz_iret hx hb hr rfl hlocks hS dX8_has_27 () (Or.inr ⟨rfl, (fq_0 p0 c_1)⟩) hP (Nat.le_of_ble_eq_true rfl) (Nat.le_of_ble_eq_true rfl)
  · skip
    refine lv_iload_n hx hb dX8_has_4 rfl (lv_at hl 1 rfl) ?_
    refine lv_aload_n hx hb dX8_has_5 rfl (lv_at hl 0 rfl) ?_
    refine va_get (D := D) (ci := 12) (v := .int (v 1)) (C := RX8) (T := TX8) (N := 10) hx hb hts (fun w9 h9 => fz_m (fin_X8 w9 h9)) hown hK hP 1 rfl rfl 0 (by decide) (hts _ (fz_m fm_0)) (fun _ h9 => h9) rfl dX8_has_6 ?_
    refine fz_I (y := 1) g_v_1 ?_
    refine lv_icmp_ge (tgt := 26) hx hb dX8_has_9 (by decide) (fun c_2 => ?_) (fun c_2 => ?_)
    · skip
      refine lv_iconst (v := 0) hx hb dX8_has_26 (by decide) ?_
      exact fz_iret hx hb hr rfl hlocks hS dX8_has_27 () (Or.inr ⟨rfl, (fq_1 p0 c_2)⟩) hP (Nat.le_of_ble_eq_true rfl) (Nat.le_of_ble_eq_true rfl)
    · skip
      obtain rfl : p0 = 0 := (fq_2 p0 c_1 c_2)
      refine lv_aload_n hx hb dX8_has_12 rfl (lv_at hl 0 rfl) ?_
      refine va_get (D := D) (ci := 12) (v := .ref (q 4)) (C := RX8) (T := TX8) (N := 10) hx hb hts (fun w9 h9 => fz_m (fin_X8 w9 h9)) hown hK hP 1 rfl rfl 4 (by decide) (hts _ (fz_m fm_1)) (fun _ h9 => h9) rfl dX8_has_13 ?_
      refine lv_iload_n hx hb dX8_has_16 rfl (lv_at hl 1 rfl) ?_
      refine va_iald hx hb hK hP 4 0 rfl rfl (fz_vin (by decide)) dX8_has_17 ?_
      refine fz_I (y := 0) g_f_4_0 ?_
      refine lv_iconst (v := (-1)) hx hb dX8_has_18 (by decide) ?_
      refine lv_icmp_eq (tgt := 26) hx hb dX8_has_19 (by decide) (fun c_3 => absurd c_3 (by decide)) (fun c_3 => ?_)
      refine lv_iconst (v := 1) hx hb dX8_has_22 (by decide) ?_
      refine lv_goto (tgt := 27) hx hb dX8_has_23 (by decide) ?_
      exact fz_iret hx hb hr rfl hlocks hS dX8_has_27 () (Or.inl ⟨rfl, (fq_3 )⟩) hP (Nat.le_of_ble_eq_true rfl) (Nat.le_of_ble_eq_true rfl)

set_option maxHeartbeats 4000000 in
set_option maxRecDepth 100000 in
theorem c_place (l : Launch) (A : Nat → Prop) (D : va_G) (k : Nat → ClassId) (q : Nat → Nat) (f : Nat → Nat → Int32) (pa : Nat → Option Nat) (v : Nat → Int32) (p0 : Int32) (g_v_2 : v 2 = 1)  :
    Met l yX8_place (fz_ws yX8_place cX8_place 3 (some .int)) { frames := 0, cells := 0, slots := 0, locals := 0 } (va_Pc [.ref (q 1), .int p0] (fz_PC A D (fz_tys k) (fz_WC k q f pa v))) (fz_QI D A (fun (_ : Unit) => fz_WC k q f pa v) (fun (r : Int32) (_ : Unit) => r = 0)) 0 0 A := by
  refine fz_of (by decide +kernel) (Nat.le_of_ble_eq_true rfl) ?_
  intro p e s m below meth c hx hb hr hml hown hlocks hts hin hA hP hK hD hG hS ls hl
  have hown : s.vm.findClass RX8 = some m.cls := hown
  have S0 : CallFix p m c cX8_place 3 s [.ref (q 1), .int p0].toArray (fz_ws yX8_place cX8_place 3 (some .int)) RX8 := ⟨hx, hb, hml, hown, hts⟩
  have hl : lv_has ls 3 [(0, .ref (q 1)), (1, .int p0)] := hl
  refine lv_iconst (v := 0) hx hb dX8_place_0 (by decide) ?_
  refine lv_istore_n (lv' := [(2, .int 0), (0, .ref (q 1)), (1, .int p0)]) hx hb dX8_place_1 rfl hl (by decide) rfl (fun ls hl => ?_)
  refine lv_iload_n hx hb dX8_place_2 rfl (lv_at hl 0 rfl) ?_
  refine lv_aload_n hx hb dX8_place_3 rfl (lv_at hl 1 rfl) ?_
  refine va_get (D := D) (ci := 12) (v := .int (v 2)) (C := RX8) (T := TX8) (N := 10) hx hb hts (fun w9 h9 => fz_m (fin_X8 w9 h9)) hown hK hP 1 rfl rfl 1 (by decide) (hts _ (fz_m fm_2)) (fun _ h9 => h9) rfl dX8_place_4 ?_
  refine fz_I (y := 1) g_v_2 ?_
  refine lv_iconst (v := 1) hx hb dX8_place_7 (by decide) ?_
  refine lv_isub hx hb dX8_place_8 ?_
  refine fz_I (y := 0) (by decide) ?_
  refine lv_icmp_ge (tgt := 28) hx hb dX8_place_9 (by decide) (fun c_1 => ?_) (fun c_1 => absurd (by decide) c_1)
  refine lv_iload_n hx hb dX8_place_28 rfl (lv_at hl 0 rfl) ?_
  exact fz_iret hx hb hr rfl hlocks hS dX8_place_29 () rfl hP (Nat.le_of_ble_eq_true rfl) (Nat.le_of_ble_eq_true rfl)

set_option maxHeartbeats 4000000 in
set_option maxRecDepth 100000 in
theorem c_isDay (l : Launch) (A : Nat → Prop) (D : va_G) (k : Nat → ClassId) (q : Nat → Nat) (f : Nat → Nat → Int32) (pa : Nat → Option Nat) (v : Nat → Int32) (p0 : Int32)   :
    Met l yX9_isDay (fz_ws yX9_isDay cX9_isDay 1 (some .boolean)) { frames := 0, cells := 0, slots := 0, locals := 0 } (va_Pc [.int p0] (fz_PC A D (fz_tys k) (fz_WC k q f pa v))) (fz_QI D A (fun (_ : Unit) => fz_WC k q f pa v) (fun (r : Int32) (_ : Unit) => (r = 1 ∧ (0 ≤ p0 ∧ p0 ≤ 9999)) ∨ (r = 0 ∧ ¬ ((0 ≤ p0 ∧ p0 ≤ 9999))))) 0 0 A := by
  refine fz_of (by decide +kernel) (Nat.le_of_ble_eq_true rfl) ?_
  intro p e s m below meth c hx hb hr hml hown hlocks hts hin hA hP hK hD hG hS ls hl
  have hown : s.vm.findClass RX9 = some m.cls := hown
  have S0 : CallFix p m c cX9_isDay 1 s [.int p0].toArray (fz_ws yX9_isDay cX9_isDay 1 (some .boolean)) RX9 := ⟨hx, hb, hml, hown, hts⟩
  have hl : lv_has ls 1 [(0, .int p0)] := hl
  refine lv_iload_n hx hb dX9_isDay_0 rfl (lv_at hl 0 rfl) ?_
  refine lv_if_lt (tgt := 15) hx hb dX9_isDay_1 (by decide) (fun c_1 => ?_) (fun c_1 => ?_)
  · skip
    refine lv_iconst (v := 0) hx hb dX9_isDay_15 (by decide) ?_
    exact fz_iret hx hb hr rfl hlocks hS dX9_isDay_16 () (Or.inr ⟨rfl, (fq_4 p0 c_1)⟩) hP (Nat.le_of_ble_eq_true rfl) (Nat.le_of_ble_eq_true rfl)
  · skip
    refine lv_iload_n hx hb dX9_isDay_4 rfl (lv_at hl 0 rfl) ?_
    refine lv_sipush (v := 9999) hx hb dX9_isDay_5 (by decide) ?_
    refine lv_icmp_gt (tgt := 15) hx hb dX9_isDay_8 (by decide) (fun c_2 => ?_) (fun c_2 => ?_)
    · skip
      refine lv_iconst (v := 0) hx hb dX9_isDay_15 (by decide) ?_
      exact fz_iret hx hb hr rfl hlocks hS dX9_isDay_16 () (Or.inr ⟨rfl, (fq_5 p0 c_2)⟩) hP (Nat.le_of_ble_eq_true rfl) (Nat.le_of_ble_eq_true rfl)
    · skip
      refine lv_iconst (v := 1) hx hb dX9_isDay_11 (by decide) ?_
      refine lv_goto (tgt := 16) hx hb dX9_isDay_12 (by decide) ?_
      exact fz_iret hx hb hr rfl hlocks hS dX9_isDay_16 () (Or.inl ⟨rfl, (fq_6 p0 c_1 c_2)⟩) hP (Nat.le_of_ble_eq_true rfl) (Nat.le_of_ble_eq_true rfl)

set_option maxHeartbeats 4000000 in
set_option maxRecDepth 100000 in
theorem c_fits (l : Launch) (A : Nat → Prop) (D : va_G) (k : Nat → ClassId) (q : Nat → Nat) (f : Nat → Nat → Int32) (pa : Nat → Option Nat) (v : Nat → Int32) (p1 p2 p3 p4 : Int32)   :
    Met l yX9_fitsBelow (fz_ws yX9_fitsBelow cX9_fitsBelow 5 (some .boolean)) { frames := 12, cells := 0, slots := 0, locals := 160 } (va_Pc [.int 0, .int p1, .int p2, .int p3, .int p4] (fz_PC A D (fz_tys k) (fz_WC k q f pa v))) (fz_QI D A (fun (_ : Unit) => fz_WC k q f pa v) (fun (r : Int32) (_ : Unit) => (r = 1 ∧ ((1 ≤ p1 ∧ p1 ≤ 3) ∧ 0 ≤ p2 ∧ ((p1 = 1 ∧ p2 ≤ 0) ∨ (¬ (p1 = 1) ∧ p2 ≤ 20)) ∧ (p3 = (-1) ∨ ((0 ≤ p3 ∧ p3 ≤ 9999) ∧ (0 ≤ p4 ∧ p4 ≤ 9999) ∧ p3 ≤ p4)))) ∨ (r = 0 ∧ ¬ (((1 ≤ p1 ∧ p1 ≤ 3) ∧ 0 ≤ p2 ∧ ((p1 = 1 ∧ p2 ≤ 0) ∨ (¬ (p1 = 1) ∧ p2 ≤ 20)) ∧ (p3 = (-1) ∨ ((0 ≤ p3 ∧ p3 ≤ 9999) ∧ (0 ≤ p4 ∧ p4 ≤ 9999) ∧ p3 ≤ p4))))))) 0 0 A := by
  refine fz_of (by decide +kernel) (Nat.le_of_ble_eq_true rfl) ?_
  intro p e s m below meth c hx hb hr hml hown hlocks hts hin hA hP hK hD hG hS ls hl
  have hown : s.vm.findClass RX9 = some m.cls := hown
  have S0 : CallFix p m c cX9_fitsBelow 5 s [.int 0, .int p1, .int p2, .int p3, .int p4].toArray (fz_ws yX9_fitsBelow cX9_fitsBelow 5 (some .boolean)) RX9 := ⟨hx, hb, hml, hown, hts⟩
  have hl : lv_has ls 5 [(0, .int 0), (1, .int p1), (2, .int p2), (3, .int p3), (4, .int p4)] := hl
  refine lv_iload_n hx hb dX9_fitsBelow_0 rfl (lv_at hl 1 rfl) ?_
  refine lv_iconst (v := 1) hx hb dX9_fitsBelow_1 (by decide) ?_
  refine lv_icmp_lt (tgt := 15) hx hb dX9_fitsBelow_2 (by decide) (fun c_1 => ?_) (fun c_1 => ?_)
  · skip
    refine lv_iconst (v := 0) hx hb dX9_fitsBelow_15 (by decide) ?_
    exact fz_iret hx hb hr rfl hlocks hS dX9_fitsBelow_16 () (Or.inr ⟨rfl, (fq_7 p1 p2 p3 p4 c_1)⟩) hP (Nat.le_of_ble_eq_true rfl) (Nat.le_of_ble_eq_true rfl)
  · skip
    refine lv_iload_n hx hb dX9_fitsBelow_5 rfl (lv_at hl 1 rfl) ?_
    refine lv_iconst (v := 3) hx hb dX9_fitsBelow_6 (by decide) ?_
    refine lv_icmp_gt (tgt := 15) hx hb dX9_fitsBelow_7 (by decide) (fun c_2 => ?_) (fun c_2 => ?_)
    · skip
      refine lv_iconst (v := 0) hx hb dX9_fitsBelow_15 (by decide) ?_
      exact fz_iret hx hb hr rfl hlocks hS dX9_fitsBelow_16 () (Or.inr ⟨rfl, (fq_8 p1 p2 p3 p4 c_2)⟩) hP (Nat.le_of_ble_eq_true rfl) (Nat.le_of_ble_eq_true rfl)
    · skip
      refine lv_iload_n hx hb dX9_fitsBelow_10 rfl (lv_at hl 1 rfl) ?_
      refine lv_iload_n hx hb dX9_fitsBelow_11 rfl (lv_at hl 0 rfl) ?_
      refine lv_icmp_gt (tgt := 17) hx hb dX9_fitsBelow_12 (by decide) (fun c_3 => ?_) (fun c_3 => (fq_9 p1 c_1 c_3).elim)
      refine lv_iload_n hx hb dX9_fitsBelow_17 rfl (lv_at hl 2 rfl) ?_
      refine lv_if_lt (tgt := 36) hx hb dX9_fitsBelow_18 (by decide) (fun c_4 => ?_) (fun c_4 => ?_)
      · skip
        refine lv_iconst (v := 0) hx hb dX9_fitsBelow_36 (by decide) ?_
        exact fz_iret hx hb hr rfl hlocks hS dX9_fitsBelow_37 () (Or.inr ⟨rfl, (fq_10 p1 p2 p3 p4 c_4)⟩) hP (Nat.le_of_ble_eq_true rfl) (Nat.le_of_ble_eq_true rfl)
      · skip
        refine lv_iload_n hx hb dX9_fitsBelow_21 rfl (lv_at hl 2 rfl) ?_
        refine lv_iload_n hx hb dX9_fitsBelow_22 rfl (lv_at hl 1 rfl) ?_
        refine lv_iconst (v := 1) hx hb dX9_fitsBelow_23 (by decide) ?_
        refine lv_icmp_ne (tgt := 31) hx hb dX9_fitsBelow_24 (by decide) (fun c_5 => ?_) (fun c_5 => ?_)
        · skip
          refine lv_bipush (v := 20) hx hb dX9_fitsBelow_31 (by decide) ?_
          refine lv_icmp_le (tgt := 38) hx hb dX9_fitsBelow_33 (by decide) (fun c_6 => ?_) (fun c_6 => ?_)
          · skip
            refine lv_iload_n hx hb dX9_fitsBelow_38 rfl (lv_at hl 3 rfl) ?_
            refine lv_iconst (v := (-1)) hx hb dX9_fitsBelow_39 (by decide) ?_
            refine lv_icmp_eq (tgt := 64) hx hb dX9_fitsBelow_40 (by decide) (fun c_7 => ?_) (fun c_7 => ?_)
            · skip
              obtain rfl : p3 = (-1) := (fq_11 p3 c_7)
              refine lv_iconst (v := 1) hx hb dX9_fitsBelow_64 (by decide) ?_
              refine lv_goto (tgt := 69) hx hb dX9_fitsBelow_65 (by decide) ?_
              exact fz_iret hx hb hr rfl hlocks hS dX9_fitsBelow_69 () (Or.inl ⟨rfl, (fq_12 p1 p2 p4 c_2 c_3 c_4 c_5 c_6)⟩) hP (Nat.le_of_ble_eq_true rfl) (Nat.le_of_ble_eq_true rfl)
            · skip
              refine lv_iload_n hx hb dX9_fitsBelow_43 rfl (lv_at hl 3 rfl) ?_
              refine fz_cSi (As := [.int p3]) (rest := []) S0 (c_isDay l A D k q f pa v p3) (fz_cwS 1 hts fm_3 fm_4 fm_5 fm_6 rfl rfl ⟨by decide, by decide, by decide +kernel⟩ ⟨Nat.le_of_ble_eq_true rfl, Nat.le_of_ble_eq_true rfl⟩) (fun _ h9 => h9) (fun a9 h9 => hA a9 (Nat.le_trans hS.1 h9)) hG hS hP hK hD rfl hl.1 rfl (Nat.le_of_ble_eq_true rfl) dX9_fitsBelow_44 ⟨Nat.le_of_ble_eq_true rfl, Nat.le_of_ble_eq_true rfl⟩ (fun r_8 u_8 H locs hw hz1 hk1 hP hS => ?_)
              have hP : va_P D vwCl (fz_WC k q f pa v) H := hP
              rcases (show (r_8 = 1 ∧ (0 ≤ p3 ∧ p3 ≤ 9999)) ∨ (r_8 = 0 ∧ ¬ ((0 ≤ p3 ∧ p3 ≤ 9999))) from hw) with ⟨rfl, hq_8⟩ | ⟨rfl, hq_8⟩
              · skip
                refine lv_if_eq (tgt := 68) hx hb dX9_fitsBelow_47 (by decide) (fun c_9 => absurd c_9 (by decide)) (fun c_9 => ?_)
                refine lv_iload hx hb dX9_fitsBelow_50 (lv_at hl 4 rfl) ?_
                refine fz_cSi (As := [.int p4]) (rest := []) S0 (c_isDay l A D k q f pa v p4) (fz_cwS 1 hts fm_3 fm_4 fm_5 fm_6 rfl rfl ⟨by decide, by decide, by decide +kernel⟩ ⟨Nat.le_of_ble_eq_true rfl, Nat.le_of_ble_eq_true rfl⟩) (fun _ h9 => h9) (fun a9 h9 => hA a9 (Nat.le_trans hS.1 h9)) hG hS hP hK hD rfl hl.1 rfl (Nat.le_of_ble_eq_true rfl) dX9_fitsBelow_52 ⟨Nat.le_of_ble_eq_true rfl, Nat.le_of_ble_eq_true rfl⟩ (fun r_10 u_10 H locs hw hz1 hk1 hP hS => ?_)
                have hP : va_P D vwCl (fz_WC k q f pa v) H := hP
                rcases (show (r_10 = 1 ∧ (0 ≤ p4 ∧ p4 ≤ 9999)) ∨ (r_10 = 0 ∧ ¬ ((0 ≤ p4 ∧ p4 ≤ 9999))) from hw) with ⟨rfl, hq_10⟩ | ⟨rfl, hq_10⟩
                · skip
                  refine lv_if_eq (tgt := 68) hx hb dX9_fitsBelow_55 (by decide) (fun c_11 => absurd c_11 (by decide)) (fun c_11 => ?_)
                  refine lv_iload_n hx hb dX9_fitsBelow_58 rfl (lv_at hl 3 rfl) ?_
                  refine lv_iload hx hb dX9_fitsBelow_59 (lv_at hl 4 rfl) ?_
                  refine lv_icmp_gt (tgt := 68) hx hb dX9_fitsBelow_61 (by decide) (fun c_12 => ?_) (fun c_12 => ?_)
                  · skip
                    refine lv_iconst (v := 0) hx hb dX9_fitsBelow_68 (by decide) ?_
                    exact fz_iret hx hb hr rfl hlocks hS dX9_fitsBelow_69 () (Or.inr ⟨rfl, (fq_13 p1 p2 p3 p4 hq_10 c_12)⟩) hP (Nat.le_of_ble_eq_true rfl) (Nat.le_of_ble_eq_true rfl)
                  · skip
                    refine lv_iconst (v := 1) hx hb dX9_fitsBelow_64 (by decide) ?_
                    refine lv_goto (tgt := 69) hx hb dX9_fitsBelow_65 (by decide) ?_
                    exact fz_iret hx hb hr rfl hlocks hS dX9_fitsBelow_69 () (Or.inl ⟨rfl, (fq_14 p1 p2 p3 p4 c_2 c_3 c_4 c_5 c_6 hq_8 hq_10 c_12)⟩) hP (Nat.le_of_ble_eq_true rfl) (Nat.le_of_ble_eq_true rfl)
                · skip
                  refine lv_if_eq (tgt := 68) hx hb dX9_fitsBelow_55 (by decide) (fun c_13 => ?_) (fun c_13 => absurd (by decide) c_13)
                  refine lv_iconst (v := 0) hx hb dX9_fitsBelow_68 (by decide) ?_
                  exact fz_iret hx hb hr rfl hlocks hS dX9_fitsBelow_69 () (Or.inr ⟨rfl, (fq_15 p1 p2 p3 p4 hq_8 hq_10)⟩) hP (Nat.le_of_ble_eq_true rfl) (Nat.le_of_ble_eq_true rfl)
              · skip
                refine lv_if_eq (tgt := 68) hx hb dX9_fitsBelow_47 (by decide) (fun c_14 => ?_) (fun c_14 => absurd (by decide) c_14)
                refine lv_iconst (v := 0) hx hb dX9_fitsBelow_68 (by decide) ?_
                exact fz_iret hx hb hr rfl hlocks hS dX9_fitsBelow_69 () (Or.inr ⟨rfl, (fq_16 p1 p2 p3 p4 c_7 hq_8)⟩) hP (Nat.le_of_ble_eq_true rfl) (Nat.le_of_ble_eq_true rfl)
          · skip
            refine lv_iconst (v := 0) hx hb dX9_fitsBelow_36 (by decide) ?_
            exact fz_iret hx hb hr rfl hlocks hS dX9_fitsBelow_37 () (Or.inr ⟨rfl, (fq_17 p1 p2 p3 p4 c_6)⟩) hP (Nat.le_of_ble_eq_true rfl) (Nat.le_of_ble_eq_true rfl)
        · skip
          obtain rfl : p1 = 1 := (fq_18 p1 c_5)
          refine lv_iconst (v := 0) hx hb dX9_fitsBelow_27 (by decide) ?_
          refine lv_goto (tgt := 33) hx hb dX9_fitsBelow_28 (by decide) ?_
          refine lv_icmp_le (tgt := 38) hx hb dX9_fitsBelow_33 (by decide) (fun c_15 => ?_) (fun c_15 => ?_)
          · skip
            obtain rfl : p2 = 0 := (fq_19 p2 c_4 c_15)
            refine lv_iload_n hx hb dX9_fitsBelow_38 rfl (lv_at hl 3 rfl) ?_
            refine lv_iconst (v := (-1)) hx hb dX9_fitsBelow_39 (by decide) ?_
            refine lv_icmp_eq (tgt := 64) hx hb dX9_fitsBelow_40 (by decide) (fun c_16 => ?_) (fun c_16 => ?_)
            · skip
              obtain rfl : p3 = (-1) := (fq_11 p3 c_16)
              refine lv_iconst (v := 1) hx hb dX9_fitsBelow_64 (by decide) ?_
              refine lv_goto (tgt := 69) hx hb dX9_fitsBelow_65 (by decide) ?_
              exact fz_iret hx hb hr rfl hlocks hS dX9_fitsBelow_69 () (Or.inl ⟨rfl, (fq_20 p4)⟩) hP (Nat.le_of_ble_eq_true rfl) (Nat.le_of_ble_eq_true rfl)
            · skip
              refine lv_iload_n hx hb dX9_fitsBelow_43 rfl (lv_at hl 3 rfl) ?_
              refine fz_cSi (As := [.int p3]) (rest := []) S0 (c_isDay l A D k q f pa v p3) (fz_cwS 1 hts fm_3 fm_4 fm_5 fm_6 rfl rfl ⟨by decide, by decide, by decide +kernel⟩ ⟨Nat.le_of_ble_eq_true rfl, Nat.le_of_ble_eq_true rfl⟩) (fun _ h9 => h9) (fun a9 h9 => hA a9 (Nat.le_trans hS.1 h9)) hG hS hP hK hD rfl hl.1 rfl (Nat.le_of_ble_eq_true rfl) dX9_fitsBelow_44 ⟨Nat.le_of_ble_eq_true rfl, Nat.le_of_ble_eq_true rfl⟩ (fun r_17 u_17 H locs hw hz1 hk1 hP hS => ?_)
              have hP : va_P D vwCl (fz_WC k q f pa v) H := hP
              rcases (show (r_17 = 1 ∧ (0 ≤ p3 ∧ p3 ≤ 9999)) ∨ (r_17 = 0 ∧ ¬ ((0 ≤ p3 ∧ p3 ≤ 9999))) from hw) with ⟨rfl, hq_17⟩ | ⟨rfl, hq_17⟩
              · skip
                refine lv_if_eq (tgt := 68) hx hb dX9_fitsBelow_47 (by decide) (fun c_18 => absurd c_18 (by decide)) (fun c_18 => ?_)
                refine lv_iload hx hb dX9_fitsBelow_50 (lv_at hl 4 rfl) ?_
                refine fz_cSi (As := [.int p4]) (rest := []) S0 (c_isDay l A D k q f pa v p4) (fz_cwS 1 hts fm_3 fm_4 fm_5 fm_6 rfl rfl ⟨by decide, by decide, by decide +kernel⟩ ⟨Nat.le_of_ble_eq_true rfl, Nat.le_of_ble_eq_true rfl⟩) (fun _ h9 => h9) (fun a9 h9 => hA a9 (Nat.le_trans hS.1 h9)) hG hS hP hK hD rfl hl.1 rfl (Nat.le_of_ble_eq_true rfl) dX9_fitsBelow_52 ⟨Nat.le_of_ble_eq_true rfl, Nat.le_of_ble_eq_true rfl⟩ (fun r_19 u_19 H locs hw hz1 hk1 hP hS => ?_)
                have hP : va_P D vwCl (fz_WC k q f pa v) H := hP
                rcases (show (r_19 = 1 ∧ (0 ≤ p4 ∧ p4 ≤ 9999)) ∨ (r_19 = 0 ∧ ¬ ((0 ≤ p4 ∧ p4 ≤ 9999))) from hw) with ⟨rfl, hq_19⟩ | ⟨rfl, hq_19⟩
                · skip
                  refine lv_if_eq (tgt := 68) hx hb dX9_fitsBelow_55 (by decide) (fun c_20 => absurd c_20 (by decide)) (fun c_20 => ?_)
                  refine lv_iload_n hx hb dX9_fitsBelow_58 rfl (lv_at hl 3 rfl) ?_
                  refine lv_iload hx hb dX9_fitsBelow_59 (lv_at hl 4 rfl) ?_
                  refine lv_icmp_gt (tgt := 68) hx hb dX9_fitsBelow_61 (by decide) (fun c_21 => ?_) (fun c_21 => ?_)
                  · skip
                    refine lv_iconst (v := 0) hx hb dX9_fitsBelow_68 (by decide) ?_
                    exact fz_iret hx hb hr rfl hlocks hS dX9_fitsBelow_69 () (Or.inr ⟨rfl, (fq_21 p3 p4 hq_19 c_21)⟩) hP (Nat.le_of_ble_eq_true rfl) (Nat.le_of_ble_eq_true rfl)
                  · skip
                    refine lv_iconst (v := 1) hx hb dX9_fitsBelow_64 (by decide) ?_
                    refine lv_goto (tgt := 69) hx hb dX9_fitsBelow_65 (by decide) ?_
                    exact fz_iret hx hb hr rfl hlocks hS dX9_fitsBelow_69 () (Or.inl ⟨rfl, (fq_22 p3 p4 hq_17 hq_19 c_21)⟩) hP (Nat.le_of_ble_eq_true rfl) (Nat.le_of_ble_eq_true rfl)
                · skip
                  refine lv_if_eq (tgt := 68) hx hb dX9_fitsBelow_55 (by decide) (fun c_22 => ?_) (fun c_22 => absurd (by decide) c_22)
                  refine lv_iconst (v := 0) hx hb dX9_fitsBelow_68 (by decide) ?_
                  exact fz_iret hx hb hr rfl hlocks hS dX9_fitsBelow_69 () (Or.inr ⟨rfl, (fq_23 p3 p4 hq_17 hq_19)⟩) hP (Nat.le_of_ble_eq_true rfl) (Nat.le_of_ble_eq_true rfl)
              · skip
                refine lv_if_eq (tgt := 68) hx hb dX9_fitsBelow_47 (by decide) (fun c_23 => ?_) (fun c_23 => absurd (by decide) c_23)
                refine lv_iconst (v := 0) hx hb dX9_fitsBelow_68 (by decide) ?_
                exact fz_iret hx hb hr rfl hlocks hS dX9_fitsBelow_69 () (Or.inr ⟨rfl, (fq_24 p3 p4 c_16 hq_17)⟩) hP (Nat.le_of_ble_eq_true rfl) (Nat.le_of_ble_eq_true rfl)
          · skip
            refine lv_iconst (v := 0) hx hb dX9_fitsBelow_36 (by decide) ?_
            exact fz_iret hx hb hr rfl hlocks hS dX9_fitsBelow_37 () (Or.inr ⟨rfl, (fq_25 p2 p3 p4 c_15)⟩) hP (Nat.le_of_ble_eq_true rfl) (Nat.le_of_ble_eq_true rfl)

set_option maxHeartbeats 4000000 in
set_option maxRecDepth 100000 in
theorem c_contHas (l : Launch) (A : Nat → Prop) (D : va_G) (k : Nat → ClassId) (q : Nat → Nat) (f : Nat → Nat → Int32) (pa : Nat → Option Nat) (v : Nat → Int32) (p0 : Int32) (g_v_3 : v 3 = 0)  :
    Met l yX0_has (fz_ws yX0_has cX0_has 2 (some .boolean)) { frames := 0, cells := 0, slots := 0, locals := 0 } (va_Pc [.ref (q 14), .int p0] (fz_PC A D (fz_tys k) (fz_WC k q f pa v))) (fz_QI D A (fun (_ : Unit) => fz_WC k q f pa v) (fun (r : Int32) (_ : Unit) => r = 0)) 0 0 A := by
  refine fz_of (by decide +kernel) (Nat.le_of_ble_eq_true rfl) ?_
  intro p e s m below meth c hx hb hr hml hown hlocks hts hin hA hP hK hD hG hS ls hl
  have hown : s.vm.findClass RX0 = some m.cls := hown
  have S0 : CallFix p m c cX0_has 2 s [.ref (q 14), .int p0].toArray (fz_ws yX0_has cX0_has 2 (some .boolean)) RX0 := ⟨hx, hb, hml, hown, hts⟩
  have hl : lv_has ls 2 [(0, .ref (q 14)), (1, .int p0)] := hl
  refine lv_iload_n hx hb dX0_has_0 rfl (lv_at hl 1 rfl) ?_
  refine lv_if_lt (tgt := 25) hx hb dX0_has_1 (by decide) (fun c_1 => ?_) (fun c_1 => ?_)
  · skip
    refine lv_iconst (v := 0) hx hb dX0_has_25 (by decide) ?_
    exact fz_iret hx hb hr rfl hlocks hS dX0_has_26 () rfl hP (Nat.le_of_ble_eq_true rfl) (Nat.le_of_ble_eq_true rfl)
  · skip
    refine lv_iload_n hx hb dX0_has_4 rfl (lv_at hl 1 rfl) ?_
    refine lv_aload_n hx hb dX0_has_5 rfl (lv_at hl 0 rfl) ?_
    refine va_get (D := D) (ci := 4) (v := .int (v 3)) (C := RX0) (T := TX0) (N := 9) hx hb hts (fun w9 h9 => fz_m (fin_X0 w9 h9)) hown hK hP 14 rfl rfl 0 (by decide) (hts _ (fz_m fm_7)) (fun _ h9 => h9) rfl dX0_has_6 ?_
    refine fz_I (y := 0) g_v_3 ?_
    refine lv_icmp_ge (tgt := 25) hx hb dX0_has_9 (by decide) (fun c_2 => ?_) (fun c_2 => (fq_26 p0 c_1 c_2).elim)
    refine lv_iconst (v := 0) hx hb dX0_has_25 (by decide) ?_
    exact fz_iret hx hb hr rfl hlocks hS dX0_has_26 () rfl hP (Nat.le_of_ble_eq_true rfl) (Nat.le_of_ble_eq_true rfl)

set_option maxHeartbeats 4000000 in
set_option maxRecDepth 100000 in
theorem c_copHas (l : Launch) (A : Nat → Prop) (D : va_G) (k : Nat → ClassId) (q : Nat → Nat) (f : Nat → Nat → Int32) (pa : Nat → Option Nat) (v : Nat → Int32) (p0 : Int32) (g_v_7 : v 7 = 0)  :
    Met l yX1_has (fz_ws yX1_has cX1_has 2 (some .boolean)) { frames := 0, cells := 0, slots := 0, locals := 0 } (va_Pc [.ref (q 23), .int p0] (fz_PC A D (fz_tys k) (fz_WC k q f pa v))) (fz_QI D A (fun (_ : Unit) => fz_WC k q f pa v) (fun (r : Int32) (_ : Unit) => r = 0)) 0 0 A := by
  refine fz_of (by decide +kernel) (Nat.le_of_ble_eq_true rfl) ?_
  intro p e s m below meth c hx hb hr hml hown hlocks hts hin hA hP hK hD hG hS ls hl
  have hown : s.vm.findClass RX1 = some m.cls := hown
  have S0 : CallFix p m c cX1_has 2 s [.ref (q 23), .int p0].toArray (fz_ws yX1_has cX1_has 2 (some .boolean)) RX1 := ⟨hx, hb, hml, hown, hts⟩
  have hl : lv_has ls 2 [(0, .ref (q 23)), (1, .int p0)] := hl
  refine lv_iload_n hx hb dX1_has_0 rfl (lv_at hl 1 rfl) ?_
  refine lv_if_lt (tgt := 26) hx hb dX1_has_1 (by decide) (fun c_1 => ?_) (fun c_1 => ?_)
  · skip
    refine lv_iconst (v := 0) hx hb dX1_has_26 (by decide) ?_
    exact fz_iret hx hb hr rfl hlocks hS dX1_has_27 () rfl hP (Nat.le_of_ble_eq_true rfl) (Nat.le_of_ble_eq_true rfl)
  · skip
    refine lv_iload_n hx hb dX1_has_4 rfl (lv_at hl 1 rfl) ?_
    refine lv_aload_n hx hb dX1_has_5 rfl (lv_at hl 0 rfl) ?_
    refine va_get (D := D) (ci := 5) (v := .int (v 7)) (C := RX1) (T := TX1) (N := 3) hx hb hts (fun w9 h9 => fz_m (fin_X1 w9 h9)) hown hK hP 23 rfl rfl 0 (by decide) (hts _ (fz_m fm_8)) (fun _ h9 => h9) rfl dX1_has_6 ?_
    refine fz_I (y := 0) g_v_7 ?_
    refine lv_icmp_ge (tgt := 26) hx hb dX1_has_9 (by decide) (fun c_2 => ?_) (fun c_2 => (fq_26 p0 c_1 c_2).elim)
    refine lv_iconst (v := 0) hx hb dX1_has_26 (by decide) ?_
    exact fz_iret hx hb hr rfl hlocks hS dX1_has_27 () rfl hP (Nat.le_of_ble_eq_true rfl) (Nat.le_of_ble_eq_true rfl)

set_option maxHeartbeats 4000000 in
set_option maxRecDepth 100000 in
theorem c_reqNode (l : Launch) (hl0 : l.stackTraces = false) (A : Nat → Prop) (D : va_G) (k : Nat → ClassId) (q : Nat → Nat) (f : Nat → Nat → Int32) (pa : Nat → Option Nat) (v : Nat → Int32) (p0 : Int32) (g_v_1 : v 1 = 1) (g_f_4_0 : f 4 0 = 0)  :
    vx_Met l yX9_requireNode (fz_ws yX9_requireNode cX9_requireNode 2 none) { frames := 12, cells := 1, slots := 6, locals := 160 } (va_Pc [.ref (q 31), .int p0] (fz_PC A D (fz_tys k) (fz_WC k q f pa v))) (fz_QV D A (fun (_ : Unit) => fz_WC k q f pa v) (fun (_ : Unit) => p0 = 0)) (fz_XC (fun E => (E = "java/lang/IndexOutOfBoundsException" ∧ ¬ (p0 = 0))) A) 1 6 A := by
  refine fz_ofX (by decide +kernel) (Nat.le_of_ble_eq_true rfl) ?_
  intro p e s m below meth c hx hb hr hml hown hlocks hts ht hA hP hK hD hG hS ls hl
  have hown : s.vm.findClass RX9 = some m.cls := hown
  have S0 : CallFix p m c cX9_requireNode 2 s [.ref (q 31), .int p0].toArray (fz_ws yX9_requireNode cX9_requireNode 2 none) RX9 := ⟨hx, hb, hml, hown, hts⟩
  have hl : lv_has ls 2 [(0, .ref (q 31)), (1, .int p0)] := hl
  refine lv_aload_n hx hb dX9_requireNode_0 rfl (lv_at hl 0 rfl) ?_
  refine va_get (D := D) (ci := 13) (v := .ref (q 0)) (C := RX9) (T := TX9) (N := 8) hx hb hts (fun w9 h9 => fz_m (fin_X9 w9 h9)) hown hK hP 31 rfl rfl 0 (by decide) (hts _ (fz_m fm_9)) (fun _ h9 => h9) rfl dX9_requireNode_1 ?_
  refine va_get (D := D) (ci := 11) (v := .ref (q 1)) (C := RX7) (T := TX7) (N := 6) hx hb hts (fun w9 h9 => fz_m (fin_X7 w9 h9)) hown hK hP 0 rfl rfl 0 (by decide) (hts _ (fz_m fm_10)) (fun _ h9 => h9) rfl dX9_requireNode_4 ?_
  refine lv_iload_n hx hb dX9_requireNode_7 rfl (lv_at hl 1 rfl) ?_
  refine fz_cVi (As := [.int p0]) (rest := []) S0 (c_has l A D k q f pa v p0 g_v_1 g_f_4_0) (fz_cwV (C := RX8) 1 hts fm_11 fm_12 fm_13 fm_14 fm_15 rfl rfl ⟨by decide, by decide, by decide +kernel⟩ ⟨Nat.le_of_ble_eq_true rfl, Nat.le_of_ble_eq_true rfl⟩) (va_recv hK hP (ci := 12) (q0 := 1) rfl rfl) (fun _ h9 => h9) (fun a9 h9 => hA a9 (Nat.le_trans hS.1 h9)) hG hS hP hK hD rfl hl.1 rfl (Nat.le_of_ble_eq_true rfl) dX9_requireNode_8 ⟨Nat.le_of_ble_eq_true rfl, Nat.le_of_ble_eq_true rfl⟩ (fun r_1 u_1 H locs hw hz1 hk1 hP hS => ?_)
  have hP : va_P D vwCl (fz_WC k q f pa v) H := hP
  rcases (show (r_1 = 1 ∧ p0 = 0) ∨ (r_1 = 0 ∧ ¬ (p0 = 0)) from hw) with ⟨rfl, hq_1⟩ | ⟨rfl, hq_1⟩
  · skip
    obtain rfl : p0 = 0 := (fq_27 p0 hq_1)
    refine lv_if_ne (tgt := 25) hx hb dX9_requireNode_11 (by decide) (fun c_2 => ?_) (fun c_2 => absurd c_2 (by decide))
    exact vx_ret (fz_vret hx hb hr hlocks hS dX9_requireNode_25 () (fq_3 ) hP (Nat.le_of_ble_eq_true rfl) (Nat.le_of_ble_eq_true rfl))
  · skip
    refine lv_if_ne (tgt := 25) hx hb dX9_requireNode_11 (by decide) (fun c_3 => absurd (by decide) c_3) (fun c_3 => ?_)
    exact fz_throwW (cls := "java/lang/IndexOutOfBoundsException") (text := "no such node") (names := fz_EN) (ik := 161) (is := 491) (ic := 165) hx hb hl0 hown hts hG (fz_fit_165) ⟨fm_16, fm_17⟩ (by decide) fz_at_165 fz_ok_165 hS (hl.1.trans hml.symm) dX9_requireNode_14 dX9_requireNode_17 dX9_requireNode_18 dX9_requireNode_21 dX9_requireNode_24 ht hlocks ⟨Nat.le_of_ble_eq_true rfl, Nat.le_of_ble_eq_true rfl, Nat.le_of_ble_eq_true rfl, Nat.le_of_ble_eq_true rfl⟩ ⟨rfl, (fq_28 p0 hq_1)⟩ ⟨Nat.le_of_ble_eq_true rfl, Nat.le_of_ble_eq_true rfl⟩

set_option maxHeartbeats 4000000 in
set_option maxRecDepth 100000 in
theorem c_reqUnit (l : Launch) (hl0 : l.stackTraces = false) (A : Nat → Prop) (D : va_G) (k : Nat → ClassId) (q : Nat → Nat) (f : Nat → Nat → Int32) (pa : Nat → Option Nat) (v : Nat → Int32) (g_f_7_0 : f 7 0 = 0)  :
    vx_Met l yX9_requireUnit (fz_ws yX9_requireUnit cX9_requireUnit 2 none) { frames := 12, cells := 1, slots := 6, locals := 160 } (va_Pc [.ref (q 31), .int 0] (fz_PC A D (fz_tys k) (fz_WC k q f pa v))) (fz_QV D A (fun (_ : Unit) => fz_WC k q f pa v) (fun (_ : Unit) => False)) (fz_XC (fun E => (E = "java/lang/IllegalArgumentException" ∧ True)) A) 1 6 A := by
  refine fz_ofX (by decide +kernel) (Nat.le_of_ble_eq_true rfl) ?_
  intro p e s m below meth c hx hb hr hml hown hlocks hts ht hA hP hK hD hG hS ls hl
  have hown : s.vm.findClass RX9 = some m.cls := hown
  have S0 : CallFix p m c cX9_requireUnit 2 s [.ref (q 31), .int 0].toArray (fz_ws yX9_requireUnit cX9_requireUnit 2 none) RX9 := ⟨hx, hb, hml, hown, hts⟩
  have hl : lv_has ls 2 [(0, .ref (q 31)), (1, .int 0)] := hl
  refine lv_aload_n hx hb dX9_requireUnit_0 rfl (lv_at hl 0 rfl) ?_
  refine va_get (D := D) (ci := 13) (v := .ref (q 0)) (C := RX9) (T := TX9) (N := 8) hx hb hts (fun w9 h9 => fz_m (fin_X9 w9 h9)) hown hK hP 31 rfl rfl 0 (by decide) (hts _ (fz_m fm_9)) (fun _ h9 => h9) rfl dX9_requireUnit_1 ?_
  refine va_get (D := D) (ci := 11) (v := .ref (q 1)) (C := RX7) (T := TX7) (N := 6) hx hb hts (fun w9 h9 => fz_m (fin_X7 w9 h9)) hown hK hP 0 rfl rfl 0 (by decide) (hts _ (fz_m fm_10)) (fun _ h9 => h9) rfl dX9_requireUnit_4 ?_
  refine va_get (D := D) (ci := 12) (v := .ref (q 7)) (C := RX8) (T := TX8) (N := 10) hx hb hts (fun w9 h9 => fz_m (fin_X8 w9 h9)) hown hK hP 1 rfl rfl 7 (by decide) (hts _ (fz_m fm_18)) (fun _ h9 => h9) rfl dX9_requireUnit_7 ?_
  refine lv_iload_n hx hb dX9_requireUnit_10 rfl (lv_at hl 1 rfl) ?_
  refine va_iald hx hb hK hP 7 0 rfl rfl (fz_vin (by decide)) dX9_requireUnit_11 ?_
  refine fz_I (y := 0) g_f_7_0 ?_
  refine lv_if_ne (tgt := 26) hx hb dX9_requireUnit_12 (by decide) (fun c_1 => absurd (by decide) c_1) (fun c_1 => ?_)
  exact fz_throwW (cls := "java/lang/IllegalArgumentException") (text := "the node is no unit") (names := fz_EN) (ik := 69) (is := 493) (ic := 73) hx hb hl0 hown hts hG (fz_fit_73) ⟨fm_19, fm_20⟩ (by decide) fz_at_73 fz_ok_73 hS (hl.1.trans hml.symm) dX9_requireUnit_15 dX9_requireUnit_18 dX9_requireUnit_19 dX9_requireUnit_22 dX9_requireUnit_25 ht hlocks ⟨Nat.le_of_ble_eq_true rfl, Nat.le_of_ble_eq_true rfl, Nat.le_of_ble_eq_true rfl, Nat.le_of_ble_eq_true rfl⟩ ⟨rfl, trivial⟩ ⟨Nat.le_of_ble_eq_true rfl, Nat.le_of_ble_eq_true rfl⟩

set_option maxHeartbeats 4000000 in
set_option maxRecDepth 100000 in
theorem c_reqCont (l : Launch) (hl0 : l.stackTraces = false) (A : Nat → Prop) (D : va_G) (k : Nat → ClassId) (q : Nat → Nat) (f : Nat → Nat → Int32) (pa : Nat → Option Nat) (v : Nat → Int32) (p0 : Int32) (g_v_3 : v 3 = 0)  :
    vx_Met l yX9_requireContainer (fz_ws yX9_requireContainer cX9_requireContainer 2 none) { frames := 12, cells := 1, slots := 6, locals := 160 } (va_Pc [.ref (q 31), .int p0] (fz_PC A D (fz_tys k) (fz_WC k q f pa v))) (fz_QV D A (fun (_ : Unit) => fz_WC k q f pa v) (fun (_ : Unit) => False)) (fz_XC (fun E => (E = "java/lang/IndexOutOfBoundsException" ∧ True)) A) 1 6 A := by
  refine fz_ofX (by decide +kernel) (Nat.le_of_ble_eq_true rfl) ?_
  intro p e s m below meth c hx hb hr hml hown hlocks hts ht hA hP hK hD hG hS ls hl
  have hown : s.vm.findClass RX9 = some m.cls := hown
  have S0 : CallFix p m c cX9_requireContainer 2 s [.ref (q 31), .int p0].toArray (fz_ws yX9_requireContainer cX9_requireContainer 2 none) RX9 := ⟨hx, hb, hml, hown, hts⟩
  have hl : lv_has ls 2 [(0, .ref (q 31)), (1, .int p0)] := hl
  refine lv_aload_n hx hb dX9_requireContainer_0 rfl (lv_at hl 0 rfl) ?_
  refine va_get (D := D) (ci := 13) (v := .ref (q 0)) (C := RX9) (T := TX9) (N := 8) hx hb hts (fun w9 h9 => fz_m (fin_X9 w9 h9)) hown hK hP 31 rfl rfl 0 (by decide) (hts _ (fz_m fm_9)) (fun _ h9 => h9) rfl dX9_requireContainer_1 ?_
  refine va_get (D := D) (ci := 11) (v := .ref (q 14)) (C := RX7) (T := TX7) (N := 6) hx hb hts (fun w9 h9 => fz_m (fin_X7 w9 h9)) hown hK hP 0 rfl rfl 2 (by decide) (hts _ (fz_m fm_21)) (fun _ h9 => h9) rfl dX9_requireContainer_4 ?_
  refine lv_iload_n hx hb dX9_requireContainer_7 rfl (lv_at hl 1 rfl) ?_
  refine fz_cVi (As := [.int p0]) (rest := []) S0 (c_contHas l A D k q f pa v p0 g_v_3) (fz_cwV (C := RX0) 1 hts fm_22 fm_23 fm_24 fm_25 fm_26 rfl rfl ⟨by decide, by decide, by decide +kernel⟩ ⟨Nat.le_of_ble_eq_true rfl, Nat.le_of_ble_eq_true rfl⟩) (va_recv hK hP (ci := 4) (q0 := 14) rfl rfl) (fun _ h9 => h9) (fun a9 h9 => hA a9 (Nat.le_trans hS.1 h9)) hG hS hP hK hD rfl hl.1 rfl (Nat.le_of_ble_eq_true rfl) dX9_requireContainer_8 ⟨Nat.le_of_ble_eq_true rfl, Nat.le_of_ble_eq_true rfl⟩ (fun r_1 u_1 H locs hw hz1 hk1 hP hS => ?_)
  have hP : va_P D vwCl (fz_WC k q f pa v) H := hP
  obtain rfl : r_1 = 0 := hw
  refine lv_if_ne (tgt := 25) hx hb dX9_requireContainer_11 (by decide) (fun c_2 => absurd (by decide) c_2) (fun c_2 => ?_)
  exact fz_throwW (cls := "java/lang/IndexOutOfBoundsException") (text := "no such container") (names := fz_EN) (ik := 161) (is := 496) (ic := 165) hx hb hl0 hown hts hG (fz_fit_165) ⟨fm_16, fm_17⟩ (by decide) fz_at_165 fz_ok_165 hS (hl.1.trans hml.symm) dX9_requireContainer_14 dX9_requireContainer_17 dX9_requireContainer_18 dX9_requireContainer_21 dX9_requireContainer_24 ht hlocks ⟨Nat.le_of_ble_eq_true rfl, Nat.le_of_ble_eq_true rfl, Nat.le_of_ble_eq_true rfl, Nat.le_of_ble_eq_true rfl⟩ ⟨rfl, trivial⟩ ⟨Nat.le_of_ble_eq_true rfl, Nat.le_of_ble_eq_true rfl⟩

set_option maxHeartbeats 4000000 in
set_option maxRecDepth 100000 in
theorem c_reqCopy (l : Launch) (hl0 : l.stackTraces = false) (A : Nat → Prop) (D : va_G) (k : Nat → ClassId) (q : Nat → Nat) (f : Nat → Nat → Int32) (pa : Nat → Option Nat) (v : Nat → Int32) (p0 : Int32) (g_v_7 : v 7 = 0)  :
    vx_Met l yX9_requireCopy (fz_ws yX9_requireCopy cX9_requireCopy 2 none) { frames := 12, cells := 1, slots := 6, locals := 160 } (va_Pc [.ref (q 31), .int p0] (fz_PC A D (fz_tys k) (fz_WC k q f pa v))) (fz_QV D A (fun (_ : Unit) => fz_WC k q f pa v) (fun (_ : Unit) => False)) (fz_XC (fun E => (E = "java/lang/IndexOutOfBoundsException" ∧ True)) A) 1 6 A := by
  refine fz_ofX (by decide +kernel) (Nat.le_of_ble_eq_true rfl) ?_
  intro p e s m below meth c hx hb hr hml hown hlocks hts ht hA hP hK hD hG hS ls hl
  have hown : s.vm.findClass RX9 = some m.cls := hown
  have S0 : CallFix p m c cX9_requireCopy 2 s [.ref (q 31), .int p0].toArray (fz_ws yX9_requireCopy cX9_requireCopy 2 none) RX9 := ⟨hx, hb, hml, hown, hts⟩
  have hl : lv_has ls 2 [(0, .ref (q 31)), (1, .int p0)] := hl
  refine lv_aload_n hx hb dX9_requireCopy_0 rfl (lv_at hl 0 rfl) ?_
  refine va_get (D := D) (ci := 13) (v := .ref (q 0)) (C := RX9) (T := TX9) (N := 8) hx hb hts (fun w9 h9 => fz_m (fin_X9 w9 h9)) hown hK hP 31 rfl rfl 0 (by decide) (hts _ (fz_m fm_9)) (fun _ h9 => h9) rfl dX9_requireCopy_1 ?_
  refine va_get (D := D) (ci := 11) (v := .ref (q 23)) (C := RX7) (T := TX7) (N := 6) hx hb hts (fun w9 h9 => fz_m (fin_X7 w9 h9)) hown hK hP 0 rfl rfl 3 (by decide) (hts _ (fz_m fm_27)) (fun _ h9 => h9) rfl dX9_requireCopy_4 ?_
  refine lv_iload_n hx hb dX9_requireCopy_7 rfl (lv_at hl 1 rfl) ?_
  refine fz_cVi (As := [.int p0]) (rest := []) S0 (c_copHas l A D k q f pa v p0 g_v_7) (fz_cwV (C := RX1) 1 hts fm_28 fm_29 fm_30 fm_31 fm_32 rfl rfl ⟨by decide, by decide, by decide +kernel⟩ ⟨Nat.le_of_ble_eq_true rfl, Nat.le_of_ble_eq_true rfl⟩) (va_recv hK hP (ci := 5) (q0 := 23) rfl rfl) (fun _ h9 => h9) (fun a9 h9 => hA a9 (Nat.le_trans hS.1 h9)) hG hS hP hK hD rfl hl.1 rfl (Nat.le_of_ble_eq_true rfl) dX9_requireCopy_8 ⟨Nat.le_of_ble_eq_true rfl, Nat.le_of_ble_eq_true rfl⟩ (fun r_1 u_1 H locs hw hz1 hk1 hP hS => ?_)
  have hP : va_P D vwCl (fz_WC k q f pa v) H := hP
  obtain rfl : r_1 = 0 := hw
  refine lv_if_ne (tgt := 25) hx hb dX9_requireCopy_11 (by decide) (fun c_2 => absurd (by decide) c_2) (fun c_2 => ?_)
  exact fz_throwW (cls := "java/lang/IndexOutOfBoundsException") (text := "no such copy") (names := fz_EN) (ik := 161) (is := 499) (ic := 165) hx hb hl0 hown hts hG (fz_fit_165) ⟨fm_16, fm_17⟩ (by decide) fz_at_165 fz_ok_165 hS (hl.1.trans hml.symm) dX9_requireCopy_14 dX9_requireCopy_17 dX9_requireCopy_18 dX9_requireCopy_21 dX9_requireCopy_24 ht hlocks ⟨Nat.le_of_ble_eq_true rfl, Nat.le_of_ble_eq_true rfl, Nat.le_of_ble_eq_true rfl, Nat.le_of_ble_eq_true rfl⟩ ⟨rfl, trivial⟩ ⟨Nat.le_of_ble_eq_true rfl, Nat.le_of_ble_eq_true rfl⟩

set_option maxHeartbeats 4000000 in
set_option maxRecDepth 100000 in
theorem c_reqRequest (l : Launch) (hl0 : l.stackTraces = false) (A : Nat → Prop) (D : va_G) (k : Nat → ClassId) (q : Nat → Nat) (f : Nat → Nat → Int32) (pa : Nat → Option Nat) (v : Nat → Int32) (p0 : Int32) (g_v_8 : v 8 = 0)  :
    vx_Met l yX9_requireRequest (fz_ws yX9_requireRequest cX9_requireRequest 2 none) { frames := 12, cells := 1, slots := 6, locals := 160 } (va_Pc [.ref (q 31), .int p0] (fz_PC A D (fz_tys k) (fz_WC k q f pa v))) (fz_QV D A (fun (_ : Unit) => fz_WC k q f pa v) (fun (_ : Unit) => False)) (fz_XC (fun E => (E = "java/lang/IndexOutOfBoundsException" ∧ True)) A) 1 6 A := by
  refine fz_ofX (by decide +kernel) (Nat.le_of_ble_eq_true rfl) ?_
  intro p e s m below meth c hx hb hr hml hown hlocks hts ht hA hP hK hD hG hS ls hl
  have hown : s.vm.findClass RX9 = some m.cls := hown
  have S0 : CallFix p m c cX9_requireRequest 2 s [.ref (q 31), .int p0].toArray (fz_ws yX9_requireRequest cX9_requireRequest 2 none) RX9 := ⟨hx, hb, hml, hown, hts⟩
  have hl : lv_has ls 2 [(0, .ref (q 31)), (1, .int p0)] := hl
  refine lv_iload_n hx hb dX9_requireRequest_0 rfl (lv_at hl 1 rfl) ?_
  refine lv_if_lt (tgt := 18) hx hb dX9_requireRequest_1 (by decide) (fun c_1 => ?_) (fun c_1 => ?_)
  · skip
    exact fz_throwW (cls := "java/lang/IndexOutOfBoundsException") (text := "no such request") (names := fz_EN) (ik := 161) (is := 501) (ic := 165) hx hb hl0 hown hts hG (fz_fit_165) ⟨fm_16, fm_17⟩ (by decide) fz_at_165 fz_ok_165 hS (hl.1.trans hml.symm) dX9_requireRequest_18 dX9_requireRequest_21 dX9_requireRequest_22 dX9_requireRequest_25 dX9_requireRequest_28 ht hlocks ⟨Nat.le_of_ble_eq_true rfl, Nat.le_of_ble_eq_true rfl, Nat.le_of_ble_eq_true rfl, Nat.le_of_ble_eq_true rfl⟩ ⟨rfl, trivial⟩ ⟨Nat.le_of_ble_eq_true rfl, Nat.le_of_ble_eq_true rfl⟩
  · skip
    refine lv_iload_n hx hb dX9_requireRequest_4 rfl (lv_at hl 1 rfl) ?_
    refine lv_aload_n hx hb dX9_requireRequest_5 rfl (lv_at hl 0 rfl) ?_
    refine va_get (D := D) (ci := 13) (v := .ref (q 0)) (C := RX9) (T := TX9) (N := 8) hx hb hts (fun w9 h9 => fz_m (fin_X9 w9 h9)) hown hK hP 31 rfl rfl 0 (by decide) (hts _ (fz_m fm_9)) (fun _ h9 => h9) rfl dX9_requireRequest_6 ?_
    refine va_get (D := D) (ci := 11) (v := .ref (q 26)) (C := RX7) (T := TX7) (N := 6) hx hb hts (fun w9 h9 => fz_m (fin_X7 w9 h9)) hown hK hP 0 rfl rfl 4 (by decide) (hts _ (fz_m fm_33)) (fun _ h9 => h9) rfl dX9_requireRequest_9 ?_
    refine va_get (D := D) (ci := 9) (v := .int (v 8)) (C := RX5) (T := TX5) (N := 5) hx hb hts (fun w9 h9 => fz_m (fin_X5 w9 h9)) hown hK hP 26 rfl rfl 0 (by decide) (hts _ (fz_m fm_34)) (fun _ h9 => h9) rfl dX9_requireRequest_12 ?_
    refine fz_I (y := 0) g_v_8 ?_
    refine lv_icmp_lt (tgt := 29) hx hb dX9_requireRequest_15 (by decide) (fun c_2 => (fq_29 p0 c_1 c_2).elim) (fun c_2 => ?_)
    exact fz_throwW (cls := "java/lang/IndexOutOfBoundsException") (text := "no such request") (names := fz_EN) (ik := 161) (is := 501) (ic := 165) hx hb hl0 hown hts hG (fz_fit_165) ⟨fm_16, fm_17⟩ (by decide) fz_at_165 fz_ok_165 hS (hl.1.trans hml.symm) dX9_requireRequest_18 dX9_requireRequest_21 dX9_requireRequest_22 dX9_requireRequest_25 dX9_requireRequest_28 ht hlocks ⟨Nat.le_of_ble_eq_true rfl, Nat.le_of_ble_eq_true rfl, Nat.le_of_ble_eq_true rfl, Nat.le_of_ble_eq_true rfl⟩ ⟨rfl, trivial⟩ ⟨Nat.le_of_ble_eq_true rfl, Nat.le_of_ble_eq_true rfl⟩

set_option maxHeartbeats 4000000 in
set_option maxRecDepth 100000 in
theorem c_reqPart (l : Launch) (hl0 : l.stackTraces = false) (A : Nat → Prop) (D : va_G) (k : Nat → ClassId) (q : Nat → Nat) (f : Nat → Nat → Int32) (pa : Nat → Option Nat) (v : Nat → Int32) (p0 p1 : Int32)   :
    vx_Met l yX9_requirePart (fz_ws yX9_requirePart cX9_requirePart 2 none) { frames := 12, cells := 1, slots := 6, locals := 160 } (va_Pc [.int p0, .int p1] (fz_PC A D (fz_tys k) (fz_WC k q f pa v))) (fz_QV D A (fun (_ : Unit) => fz_WC k q f pa v) (fun (_ : Unit) => (0 ≤ p0 ∧ p0 ≤ p1))) (fz_XC (fun E => (E = "java/lang/IllegalArgumentException" ∧ (p0 < 0 ∨ p1 < p0))) A) 1 6 A := by
  refine fz_ofX (by decide +kernel) (Nat.le_of_ble_eq_true rfl) ?_
  intro p e s m below meth c hx hb hr hml hown hlocks hts ht hA hP hK hD hG hS ls hl
  have hown : s.vm.findClass RX9 = some m.cls := hown
  have S0 : CallFix p m c cX9_requirePart 2 s [.int p0, .int p1].toArray (fz_ws yX9_requirePart cX9_requirePart 2 none) RX9 := ⟨hx, hb, hml, hown, hts⟩
  have hl : lv_has ls 2 [(0, .int p0), (1, .int p1)] := hl
  refine lv_iload_n hx hb dX9_requirePart_0 rfl (lv_at hl 0 rfl) ?_
  refine lv_if_lt (tgt := 9) hx hb dX9_requirePart_1 (by decide) (fun c_1 => ?_) (fun c_1 => ?_)
  · skip
    exact fz_throwW (cls := "java/lang/IllegalArgumentException") (text := "no such part") (names := fz_EN) (ik := 69) (is := 503) (ic := 73) hx hb hl0 hown hts hG (fz_fit_73) ⟨fm_19, fm_20⟩ (by decide) fz_at_73 fz_ok_73 hS (hl.1.trans hml.symm) dX9_requirePart_9 dX9_requirePart_12 dX9_requirePart_13 dX9_requirePart_16 dX9_requirePart_19 ht hlocks ⟨Nat.le_of_ble_eq_true rfl, Nat.le_of_ble_eq_true rfl, Nat.le_of_ble_eq_true rfl, Nat.le_of_ble_eq_true rfl⟩ ⟨rfl, (fq_30 p0 p1 c_1)⟩ ⟨Nat.le_of_ble_eq_true rfl, Nat.le_of_ble_eq_true rfl⟩
  · skip
    refine lv_iload_n hx hb dX9_requirePart_4 rfl (lv_at hl 0 rfl) ?_
    refine lv_iload_n hx hb dX9_requirePart_5 rfl (lv_at hl 1 rfl) ?_
    refine lv_icmp_le (tgt := 20) hx hb dX9_requirePart_6 (by decide) (fun c_2 => ?_) (fun c_2 => ?_)
    · skip
      exact vx_ret (fz_vret hx hb hr hlocks hS dX9_requirePart_20 () (fq_31 p0 p1 c_1 c_2) hP (Nat.le_of_ble_eq_true rfl) (Nat.le_of_ble_eq_true rfl))
    · skip
      exact fz_throwW (cls := "java/lang/IllegalArgumentException") (text := "no such part") (names := fz_EN) (ik := 69) (is := 503) (ic := 73) hx hb hl0 hown hts hG (fz_fit_73) ⟨fm_19, fm_20⟩ (by decide) fz_at_73 fz_ok_73 hS (hl.1.trans hml.symm) dX9_requirePart_9 dX9_requirePart_12 dX9_requirePart_13 dX9_requirePart_16 dX9_requirePart_19 ht hlocks ⟨Nat.le_of_ble_eq_true rfl, Nat.le_of_ble_eq_true rfl, Nat.le_of_ble_eq_true rfl, Nat.le_of_ble_eq_true rfl⟩ ⟨rfl, (fq_32 p0 p1 c_2)⟩ ⟨Nat.le_of_ble_eq_true rfl, Nat.le_of_ble_eq_true rfl⟩

set_option maxHeartbeats 4000000 in
set_option maxRecDepth 100000 in
theorem c_reqDay (l : Launch) (hl0 : l.stackTraces = false) (A : Nat → Prop) (D : va_G) (k : Nat → ClassId) (q : Nat → Nat) (f : Nat → Nat → Int32) (pa : Nat → Option Nat) (v : Nat → Int32) (p0 : Int32)   :
    vx_Met l yX9_requireDay (fz_ws yX9_requireDay cX9_requireDay 1 none) { frames := 12, cells := 1, slots := 6, locals := 160 } (va_Pc [.int p0] (fz_PC A D (fz_tys k) (fz_WC k q f pa v))) (fz_QV D A (fun (_ : Unit) => fz_WC k q f pa v) (fun (_ : Unit) => (0 ≤ p0 ∧ p0 ≤ 9999))) (fz_XC (fun E => (E = "java/lang/IllegalArgumentException" ∧ ¬ ((0 ≤ p0 ∧ p0 ≤ 9999)))) A) 1 6 A := by
  refine fz_ofX (by decide +kernel) (Nat.le_of_ble_eq_true rfl) ?_
  intro p e s m below meth c hx hb hr hml hown hlocks hts ht hA hP hK hD hG hS ls hl
  have hown : s.vm.findClass RX9 = some m.cls := hown
  have S0 : CallFix p m c cX9_requireDay 1 s [.int p0].toArray (fz_ws yX9_requireDay cX9_requireDay 1 none) RX9 := ⟨hx, hb, hml, hown, hts⟩
  have hl : lv_has ls 1 [(0, .int p0)] := hl
  refine lv_iload_n hx hb dX9_requireDay_0 rfl (lv_at hl 0 rfl) ?_
  refine fz_cSi (As := [.int p0]) (rest := []) S0 (c_isDay l A D k q f pa v p0) (fz_cwS 1 hts fm_3 fm_4 fm_5 fm_6 rfl rfl ⟨by decide, by decide, by decide +kernel⟩ ⟨Nat.le_of_ble_eq_true rfl, Nat.le_of_ble_eq_true rfl⟩) (fun _ h9 => h9) (fun a9 h9 => hA a9 (Nat.le_trans hS.1 h9)) hG hS hP hK hD rfl hl.1 rfl (Nat.le_of_ble_eq_true rfl) dX9_requireDay_1 ⟨Nat.le_of_ble_eq_true rfl, Nat.le_of_ble_eq_true rfl⟩ (fun r_1 u_1 H locs hw hz1 hk1 hP hS => ?_)
  have hP : va_P D vwCl (fz_WC k q f pa v) H := hP
  rcases (show (r_1 = 1 ∧ (0 ≤ p0 ∧ p0 ≤ 9999)) ∨ (r_1 = 0 ∧ ¬ ((0 ≤ p0 ∧ p0 ≤ 9999))) from hw) with ⟨rfl, hq_1⟩ | ⟨rfl, hq_1⟩
  · skip
    refine lv_if_ne (tgt := 18) hx hb dX9_requireDay_4 (by decide) (fun c_2 => ?_) (fun c_2 => absurd c_2 (by decide))
    exact vx_ret (fz_vret hx hb hr hlocks hS dX9_requireDay_18 () (fq_33 p0 hq_1) hP (Nat.le_of_ble_eq_true rfl) (Nat.le_of_ble_eq_true rfl))
  · skip
    refine lv_if_ne (tgt := 18) hx hb dX9_requireDay_4 (by decide) (fun c_3 => absurd (by decide) c_3) (fun c_3 => ?_)
    exact fz_throwW (cls := "java/lang/IllegalArgumentException") (text := "no such day") (names := fz_EN) (ik := 69) (is := 505) (ic := 73) hx hb hl0 hown hts hG (fz_fit_73) ⟨fm_19, fm_20⟩ (by decide) fz_at_73 fz_ok_73 hS (hl.1.trans hml.symm) dX9_requireDay_7 dX9_requireDay_10 dX9_requireDay_11 dX9_requireDay_14 dX9_requireDay_17 ht hlocks ⟨Nat.le_of_ble_eq_true rfl, Nat.le_of_ble_eq_true rfl, Nat.le_of_ble_eq_true rfl, Nat.le_of_ble_eq_true rfl⟩ ⟨rfl, (fq_34 p0 hq_1)⟩ ⟨Nat.le_of_ble_eq_true rfl, Nat.le_of_ble_eq_true rfl⟩

set_option maxHeartbeats 4000000 in
set_option maxRecDepth 100000 in
theorem c_reqCap (l : Launch) (hl0 : l.stackTraces = false) (A : Nat → Prop) (D : va_G) (k : Nat → ClassId) (q : Nat → Nat) (f : Nat → Nat → Int32) (pa : Nat → Option Nat) (v : Nat → Int32) (p0 : Int32)   :
    vx_Met l yX9_requireCapacity (fz_ws yX9_requireCapacity cX9_requireCapacity 1 none) { frames := 12, cells := 1, slots := 6, locals := 160 } (va_Pc [.int p0] (fz_PC A D (fz_tys k) (fz_WC k q f pa v))) (fz_QV D A (fun (_ : Unit) => fz_WC k q f pa v) (fun (_ : Unit) => (1 ≤ p0 ∧ p0 ≤ 200))) (fz_XC (fun E => (E = "java/lang/IllegalArgumentException" ∧ ¬ ((1 ≤ p0 ∧ p0 ≤ 200)))) A) 1 6 A := by
  refine fz_ofX (by decide +kernel) (Nat.le_of_ble_eq_true rfl) ?_
  intro p e s m below meth c hx hb hr hml hown hlocks hts ht hA hP hK hD hG hS ls hl
  have hown : s.vm.findClass RX9 = some m.cls := hown
  have S0 : CallFix p m c cX9_requireCapacity 1 s [.int p0].toArray (fz_ws yX9_requireCapacity cX9_requireCapacity 1 none) RX9 := ⟨hx, hb, hml, hown, hts⟩
  have hl : lv_has ls 1 [(0, .int p0)] := hl
  refine lv_iload_n hx hb dX9_requireCapacity_0 rfl (lv_at hl 0 rfl) ?_
  refine lv_iconst (v := 1) hx hb dX9_requireCapacity_1 (by decide) ?_
  refine lv_icmp_lt (tgt := 12) hx hb dX9_requireCapacity_2 (by decide) (fun c_1 => ?_) (fun c_1 => ?_)
  · skip
    exact fz_throwW (cls := "java/lang/IllegalArgumentException") (text := "no such capacity") (names := fz_EN) (ik := 69) (is := 507) (ic := 73) hx hb hl0 hown hts hG (fz_fit_73) ⟨fm_19, fm_20⟩ (by decide) fz_at_73 fz_ok_73 hS (hl.1.trans hml.symm) dX9_requireCapacity_12 dX9_requireCapacity_15 dX9_requireCapacity_16 dX9_requireCapacity_19 dX9_requireCapacity_22 ht hlocks ⟨Nat.le_of_ble_eq_true rfl, Nat.le_of_ble_eq_true rfl, Nat.le_of_ble_eq_true rfl, Nat.le_of_ble_eq_true rfl⟩ ⟨rfl, (fq_35 p0 c_1)⟩ ⟨Nat.le_of_ble_eq_true rfl, Nat.le_of_ble_eq_true rfl⟩
  · skip
    refine lv_iload_n hx hb dX9_requireCapacity_5 rfl (lv_at hl 0 rfl) ?_
    refine lv_sipush (v := 200) hx hb dX9_requireCapacity_6 (by decide) ?_
    refine lv_icmp_le (tgt := 23) hx hb dX9_requireCapacity_9 (by decide) (fun c_2 => ?_) (fun c_2 => ?_)
    · skip
      exact vx_ret (fz_vret hx hb hr hlocks hS dX9_requireCapacity_23 () (fq_36 p0 c_1 c_2) hP (Nat.le_of_ble_eq_true rfl) (Nat.le_of_ble_eq_true rfl))
    · skip
      exact fz_throwW (cls := "java/lang/IllegalArgumentException") (text := "no such capacity") (names := fz_EN) (ik := 69) (is := 507) (ic := 73) hx hb hl0 hown hts hG (fz_fit_73) ⟨fm_19, fm_20⟩ (by decide) fz_at_73 fz_ok_73 hS (hl.1.trans hml.symm) dX9_requireCapacity_12 dX9_requireCapacity_15 dX9_requireCapacity_16 dX9_requireCapacity_19 dX9_requireCapacity_22 ht hlocks ⟨Nat.le_of_ble_eq_true rfl, Nat.le_of_ble_eq_true rfl, Nat.le_of_ble_eq_true rfl, Nat.le_of_ble_eq_true rfl⟩ ⟨rfl, (fq_37 p0 c_2)⟩ ⟨Nat.le_of_ble_eq_true rfl, Nat.le_of_ble_eq_true rfl⟩

set_option maxHeartbeats 4000000 in
set_option maxRecDepth 100000 in
theorem c_latestDay (l : Launch) (A : Nat → Prop) (D : va_G) (k : Nat → ClassId) (q : Nat → Nat) (f : Nat → Nat → Int32) (pa : Nat → Option Nat) (v : Nat → Int32) (g_v_2 : v 2 = 1) (g_f_6_0 : f 6 0 = 0) (g_f_2_0 : f 2 0 = 0) (g_f_9_0 : f 9 0 = (-1))  :
    Met l yX8_latestDay (fz_ws yX8_latestDay cX8_latestDay 6 (some .int)) { frames := 12, cells := 0, slots := 0, locals := 160 } (va_Pc [.ref (q 1), .int 0] (fz_PC A D (fz_tys k) (fz_WC k q f pa v))) (fz_QI D A (fun (_ : Unit) => fz_WC k q f pa v) (fun (r : Int32) (_ : Unit) => r = (-1))) 0 0 A := by
  refine fz_of (by decide +kernel) (Nat.le_of_ble_eq_true rfl) ?_
  intro p e s m below meth c hx hb hr hml hown hlocks hts hin hA hP hK hD hG hS ls hl
  have hown : s.vm.findClass RX8 = some m.cls := hown
  have S0 : CallFix p m c cX8_latestDay 6 s [.ref (q 1), .int 0].toArray (fz_ws yX8_latestDay cX8_latestDay 6 (some .int)) RX8 := ⟨hx, hb, hml, hown, hts⟩
  have hl : lv_has ls 6 [(0, .ref (q 1)), (1, .int 0)] := hl
  refine lv_aload_n hx hb dX8_latestDay_0 rfl (lv_at hl 0 rfl) ?_
  refine lv_iload_n hx hb dX8_latestDay_1 rfl (lv_at hl 1 rfl) ?_
  refine fz_cVi (As := [.int 0]) (rest := []) S0 (c_place l A D k q f pa v 0 g_v_2) (fz_cwV (C := RX8) 1 hts fm_35 fm_36 fm_37 fm_38 fm_15 rfl rfl ⟨by decide, by decide, by decide +kernel⟩ ⟨Nat.le_of_ble_eq_true rfl, Nat.le_of_ble_eq_true rfl⟩) (va_recv hK hP (ci := 12) (q0 := 1) rfl rfl) (fun _ h9 => h9) (fun a9 h9 => hA a9 (Nat.le_trans hS.1 h9)) hG hS hP hK hD rfl hl.1 rfl (Nat.le_of_ble_eq_true rfl) dX8_latestDay_2 ⟨Nat.le_of_ble_eq_true rfl, Nat.le_of_ble_eq_true rfl⟩ (fun r_1 u_1 H locs hw hz1 hk1 hP hS => ?_)
  have hP : va_P D vwCl (fz_WC k q f pa v) H := hP
  obtain rfl : r_1 = 0 := hw
  refine lv_istore_n (lv' := [(2, .int 0), (0, .ref (q 1)), (1, .int 0)]) hx hb dX8_latestDay_5 rfl hl (by decide) rfl (fun ls hl => ?_)
  refine lv_iload_n hx hb dX8_latestDay_6 rfl (lv_at hl 0 rfl) ?_
  refine lv_aload_n hx hb dX8_latestDay_7 rfl (lv_at hl 1 rfl) ?_
  refine va_get (D := D) (ci := 12) (v := .ref (q 6)) (C := RX8) (T := TX8) (N := 10) hx hb hts (fun w9 h9 => fz_m (fin_X8 w9 h9)) hown hK hP 1 rfl rfl 6 (by decide) (hts _ (fz_m fm_39)) (fun _ h9 => h9) rfl dX8_latestDay_8 ?_
  refine lv_iload_n hx hb dX8_latestDay_11 rfl (lv_at hl 2 rfl) ?_
  refine va_iald hx hb hK hP 6 0 rfl rfl (fz_vin (by decide)) dX8_latestDay_12 ?_
  refine fz_I (y := 0) g_f_6_0 ?_
  refine lv_iadd hx hb dX8_latestDay_13 ?_
  refine fz_I (y := 0) (by decide) ?_
  refine lv_istore_n (lv' := [(3, .int 0), (2, .int 0), (0, .ref (q 1)), (1, .int 0)]) hx hb dX8_latestDay_14 rfl hl (by decide) rfl (fun ls hl => ?_)
  refine lv_iconst (v := (-1)) hx hb dX8_latestDay_15 (by decide) ?_
  refine lv_istore (lv' := [(4, .int (-1)), (3, .int 0), (2, .int 0), (0, .ref (q 1)), (1, .int 0)]) hx hb dX8_latestDay_16 hl (by decide) rfl (fun ls hl => ?_)
  refine lv_iload_n hx hb dX8_latestDay_18 rfl (lv_at hl 2 rfl) ?_
  refine lv_istore (lv' := [(5, .int 0), (4, .int (-1)), (3, .int 0), (2, .int 0), (0, .ref (q 1)), (1, .int 0)]) hx hb dX8_latestDay_19 hl (by decide) rfl (fun ls hl => ?_)
  refine lv_iload hx hb dX8_latestDay_21 (lv_at hl 0 rfl) ?_
  refine lv_iload_n hx hb dX8_latestDay_23 rfl (lv_at hl 2 rfl) ?_
  refine lv_icmp_gt (tgt := 52) hx hb dX8_latestDay_24 (by decide) (fun c_2 => absurd c_2 (by decide)) (fun c_2 => ?_)
  refine lv_iload hx hb dX8_latestDay_27 (lv_at hl 1 rfl) ?_
  refine lv_aload_n hx hb dX8_latestDay_29 rfl (lv_at hl 4 rfl) ?_
  refine va_get (D := D) (ci := 12) (v := .ref (q 9)) (C := RX8) (T := TX8) (N := 10) hx hb hts (fun w9 h9 => fz_m (fin_X8 w9 h9)) hown hK hP 1 rfl rfl 9 (by decide) (hts _ (fz_m fm_40)) (fun _ h9 => h9) rfl dX8_latestDay_30 ?_
  refine lv_aload_n hx hb dX8_latestDay_33 rfl (lv_at hl 4 rfl) ?_
  refine va_get (D := D) (ci := 12) (v := .ref (q 2)) (C := RX8) (T := TX8) (N := 10) hx hb hts (fun w9 h9 => fz_m (fin_X8 w9 h9)) hown hK hP 1 rfl rfl 2 (by decide) (hts _ (fz_m fm_41)) (fun _ h9 => h9) rfl dX8_latestDay_34 ?_
  refine lv_iload hx hb dX8_latestDay_37 (lv_at hl 0 rfl) ?_
  refine va_iald hx hb hK hP 2 0 rfl rfl (fz_vin (by decide)) dX8_latestDay_39 ?_
  refine fz_I (y := 0) g_f_2_0 ?_
  refine va_iald hx hb hK hP 9 0 rfl rfl (fz_vin (by decide)) dX8_latestDay_40 ?_
  refine fz_I (y := (-1)) g_f_9_0 ?_
  refine va_mmax hx hb (hml.trans hl.1.symm) hown (hts _ (fz_m fm_42)) (hts _ (fz_m fm_43)) (hts _ (fz_m fm_44)) (hts _ (fz_m fm_45)) (Nat.le_of_ble_eq_true rfl) (Nat.le_of_ble_eq_true rfl) (Nat.le_of_ble_eq_true rfl) (Nat.le_of_ble_eq_true rfl) dX8_latestDay_41 ?_
  refine fz_I (y := (-1)) (by decide) ?_
  refine lv_istore (lv' := [(4, .int (-1)), (5, .int 0), (3, .int 0), (2, .int 0), (0, .ref (q 1)), (1, .int 0)]) hx hb dX8_latestDay_44 hl (by decide) rfl (fun ls hl => ?_)
  refine lv_iinc (v := 1) (lv' := [(5, .int 1), (4, .int (-1)), (3, .int 0), (2, .int 0), (0, .ref (q 1)), (1, .int 0)]) hx hb dX8_latestDay_46 hl (k := 1) rfl (by decide) (by decide) rfl (fun ls hl => ?_)
  refine lv_goto (tgt := 21) hx hb dX8_latestDay_49 (by decide) ?_
  refine lv_iload hx hb dX8_latestDay_21 (lv_at hl 0 rfl) ?_
  refine lv_iload_n hx hb dX8_latestDay_23 rfl (lv_at hl 2 rfl) ?_
  refine lv_icmp_gt (tgt := 52) hx hb dX8_latestDay_24 (by decide) (fun c_3 => ?_) (fun c_3 => absurd (by decide) c_3)
  refine lv_iload hx hb dX8_latestDay_52 (lv_at hl 1 rfl) ?_
  exact fz_iret hx hb hr rfl hlocks hS dX8_latestDay_54 () rfl hP (Nat.le_of_ble_eq_true rfl) (Nat.le_of_ble_eq_true rfl)

set_option maxHeartbeats 4000000 in
set_option maxRecDepth 100000 in
theorem c_countPages (l : Launch) (A : Nat → Prop) (D : va_G) (k : Nat → ClassId) (q : Nat → Nat) (f : Nat → Nat → Int32) (pa : Nat → Option Nat) (v : Nat → Int32) (g_v_2 : v 2 = 1) (g_f_6_0 : f 6 0 = 0) (g_f_2_0 : f 2 0 = 0) (g_f_7_0 : f 7 0 = 0)  :
    Met l yX8_countPages (fz_ws yX8_countPages cX8_countPages 6 (some .int)) { frames := 12, cells := 0, slots := 0, locals := 160 } (va_Pc [.ref (q 1), .int 0] (fz_PC A D (fz_tys k) (fz_WC k q f pa v))) (fz_QI D A (fun (_ : Unit) => fz_WC k q f pa v) (fun (r : Int32) (_ : Unit) => r = 0)) 0 0 A := by
  refine fz_of (by decide +kernel) (Nat.le_of_ble_eq_true rfl) ?_
  intro p e s m below meth c hx hb hr hml hown hlocks hts hin hA hP hK hD hG hS ls hl
  have hown : s.vm.findClass RX8 = some m.cls := hown
  have S0 : CallFix p m c cX8_countPages 6 s [.ref (q 1), .int 0].toArray (fz_ws yX8_countPages cX8_countPages 6 (some .int)) RX8 := ⟨hx, hb, hml, hown, hts⟩
  have hl : lv_has ls 6 [(0, .ref (q 1)), (1, .int 0)] := hl
  refine lv_aload_n hx hb dX8_countPages_0 rfl (lv_at hl 0 rfl) ?_
  refine lv_iload_n hx hb dX8_countPages_1 rfl (lv_at hl 1 rfl) ?_
  refine fz_cVi (As := [.int 0]) (rest := []) S0 (c_place l A D k q f pa v 0 g_v_2) (fz_cwV (C := RX8) 1 hts fm_35 fm_36 fm_37 fm_38 fm_15 rfl rfl ⟨by decide, by decide, by decide +kernel⟩ ⟨Nat.le_of_ble_eq_true rfl, Nat.le_of_ble_eq_true rfl⟩) (va_recv hK hP (ci := 12) (q0 := 1) rfl rfl) (fun _ h9 => h9) (fun a9 h9 => hA a9 (Nat.le_trans hS.1 h9)) hG hS hP hK hD rfl hl.1 rfl (Nat.le_of_ble_eq_true rfl) dX8_countPages_2 ⟨Nat.le_of_ble_eq_true rfl, Nat.le_of_ble_eq_true rfl⟩ (fun r_1 u_1 H locs hw hz1 hk1 hP hS => ?_)
  have hP : va_P D vwCl (fz_WC k q f pa v) H := hP
  obtain rfl : r_1 = 0 := hw
  refine lv_istore_n (lv' := [(2, .int 0), (0, .ref (q 1)), (1, .int 0)]) hx hb dX8_countPages_5 rfl hl (by decide) rfl (fun ls hl => ?_)
  refine lv_iload_n hx hb dX8_countPages_6 rfl (lv_at hl 0 rfl) ?_
  refine lv_aload_n hx hb dX8_countPages_7 rfl (lv_at hl 1 rfl) ?_
  refine va_get (D := D) (ci := 12) (v := .ref (q 6)) (C := RX8) (T := TX8) (N := 10) hx hb hts (fun w9 h9 => fz_m (fin_X8 w9 h9)) hown hK hP 1 rfl rfl 6 (by decide) (hts _ (fz_m fm_39)) (fun _ h9 => h9) rfl dX8_countPages_8 ?_
  refine lv_iload_n hx hb dX8_countPages_11 rfl (lv_at hl 2 rfl) ?_
  refine va_iald hx hb hK hP 6 0 rfl rfl (fz_vin (by decide)) dX8_countPages_12 ?_
  refine fz_I (y := 0) g_f_6_0 ?_
  refine lv_iadd hx hb dX8_countPages_13 ?_
  refine fz_I (y := 0) (by decide) ?_
  refine lv_istore_n (lv' := [(3, .int 0), (2, .int 0), (0, .ref (q 1)), (1, .int 0)]) hx hb dX8_countPages_14 rfl hl (by decide) rfl (fun ls hl => ?_)
  refine lv_iconst (v := 0) hx hb dX8_countPages_15 (by decide) ?_
  refine lv_istore (lv' := [(4, .int 0), (3, .int 0), (2, .int 0), (0, .ref (q 1)), (1, .int 0)]) hx hb dX8_countPages_16 hl (by decide) rfl (fun ls hl => ?_)
  refine lv_iload_n hx hb dX8_countPages_18 rfl (lv_at hl 2 rfl) ?_
  refine lv_istore (lv' := [(5, .int 0), (4, .int 0), (3, .int 0), (2, .int 0), (0, .ref (q 1)), (1, .int 0)]) hx hb dX8_countPages_19 hl (by decide) rfl (fun ls hl => ?_)
  refine lv_iload hx hb dX8_countPages_21 (lv_at hl 0 rfl) ?_
  refine lv_iload_n hx hb dX8_countPages_23 rfl (lv_at hl 2 rfl) ?_
  refine lv_icmp_gt (tgt := 50) hx hb dX8_countPages_24 (by decide) (fun c_2 => absurd c_2 (by decide)) (fun c_2 => ?_)
  refine lv_iload hx hb dX8_countPages_27 (lv_at hl 1 rfl) ?_
  refine lv_aload_n hx hb dX8_countPages_29 rfl (lv_at hl 4 rfl) ?_
  refine va_get (D := D) (ci := 12) (v := .ref (q 7)) (C := RX8) (T := TX8) (N := 10) hx hb hts (fun w9 h9 => fz_m (fin_X8 w9 h9)) hown hK hP 1 rfl rfl 7 (by decide) (hts _ (fz_m fm_46)) (fun _ h9 => h9) rfl dX8_countPages_30 ?_
  refine lv_aload_n hx hb dX8_countPages_33 rfl (lv_at hl 4 rfl) ?_
  refine va_get (D := D) (ci := 12) (v := .ref (q 2)) (C := RX8) (T := TX8) (N := 10) hx hb hts (fun w9 h9 => fz_m (fin_X8 w9 h9)) hown hK hP 1 rfl rfl 2 (by decide) (hts _ (fz_m fm_41)) (fun _ h9 => h9) rfl dX8_countPages_34 ?_
  refine lv_iload hx hb dX8_countPages_37 (lv_at hl 0 rfl) ?_
  refine va_iald hx hb hK hP 2 0 rfl rfl (fz_vin (by decide)) dX8_countPages_39 ?_
  refine fz_I (y := 0) g_f_2_0 ?_
  refine va_iald hx hb hK hP 7 0 rfl rfl (fz_vin (by decide)) dX8_countPages_40 ?_
  refine fz_I (y := 0) g_f_7_0 ?_
  refine lv_iadd hx hb dX8_countPages_41 ?_
  refine fz_I (y := 0) (by decide) ?_
  refine lv_istore (lv' := [(4, .int 0), (5, .int 0), (3, .int 0), (2, .int 0), (0, .ref (q 1)), (1, .int 0)]) hx hb dX8_countPages_42 hl (by decide) rfl (fun ls hl => ?_)
  refine lv_iinc (v := 1) (lv' := [(5, .int 1), (4, .int 0), (3, .int 0), (2, .int 0), (0, .ref (q 1)), (1, .int 0)]) hx hb dX8_countPages_44 hl (k := 1) rfl (by decide) (by decide) rfl (fun ls hl => ?_)
  refine lv_goto (tgt := 21) hx hb dX8_countPages_47 (by decide) ?_
  refine lv_iload hx hb dX8_countPages_21 (lv_at hl 0 rfl) ?_
  refine lv_iload_n hx hb dX8_countPages_23 rfl (lv_at hl 2 rfl) ?_
  refine lv_icmp_gt (tgt := 50) hx hb dX8_countPages_24 (by decide) (fun c_3 => ?_) (fun c_3 => absurd (by decide) c_3)
  refine lv_iload hx hb dX8_countPages_50 (lv_at hl 1 rfl) ?_
  exact fz_iret hx hb hr rfl hlocks hS dX8_countPages_52 () rfl hP (Nat.le_of_ble_eq_true rfl) (Nat.le_of_ble_eq_true rfl)

set_option maxHeartbeats 4000000 in
set_option maxRecDepth 100000 in
theorem c_countUnits (l : Launch) (A : Nat → Prop) (D : va_G) (k : Nat → ClassId) (q : Nat → Nat) (f : Nat → Nat → Int32) (pa : Nat → Option Nat) (v : Nat → Int32) (g_v_2 : v 2 = 1) (g_f_2_0 : f 2 0 = 0) (g_f_7_0 : f 7 0 = 0)  :
    Met l yX8_countUnits (fz_ws yX8_countUnits cX8_countUnits 3 (some .int)) { frames := 0, cells := 0, slots := 0, locals := 0 } (va_Pc [.ref (q 1)] (fz_PC A D (fz_tys k) (fz_WC k q f pa v))) (fz_QI D A (fun (_ : Unit) => fz_WC k q f pa v) (fun (r : Int32) (_ : Unit) => r = 0)) 0 0 A := by
  refine fz_of (by decide +kernel) (Nat.le_of_ble_eq_true rfl) ?_
  intro p e s m below meth c hx hb hr hml hown hlocks hts hin hA hP hK hD hG hS ls hl
  have hown : s.vm.findClass RX8 = some m.cls := hown
  have S0 : CallFix p m c cX8_countUnits 3 s [.ref (q 1)].toArray (fz_ws yX8_countUnits cX8_countUnits 3 (some .int)) RX8 := ⟨hx, hb, hml, hown, hts⟩
  have hl : lv_has ls 3 [(0, .ref (q 1))] := hl
  refine lv_iconst (v := 0) hx hb dX8_countUnits_0 (by decide) ?_
  refine lv_istore_n (lv' := [(1, .int 0), (0, .ref (q 1))]) hx hb dX8_countUnits_1 rfl hl (by decide) rfl (fun ls hl => ?_)
  refine lv_iconst (v := 0) hx hb dX8_countUnits_2 (by decide) ?_
  refine lv_istore_n (lv' := [(2, .int 0), (1, .int 0), (0, .ref (q 1))]) hx hb dX8_countUnits_3 rfl hl (by decide) rfl (fun ls hl => ?_)
  refine lv_iload_n hx hb dX8_countUnits_4 rfl (lv_at hl 0 rfl) ?_
  refine lv_aload_n hx hb dX8_countUnits_5 rfl (lv_at hl 2 rfl) ?_
  refine va_get (D := D) (ci := 12) (v := .int (v 2)) (C := RX8) (T := TX8) (N := 10) hx hb hts (fun w9 h9 => fz_m (fin_X8 w9 h9)) hown hK hP 1 rfl rfl 1 (by decide) (hts _ (fz_m fm_2)) (fun _ h9 => h9) rfl dX8_countUnits_6 ?_
  refine fz_I (y := 1) g_v_2 ?_
  refine lv_icmp_ge (tgt := 35) hx hb dX8_countUnits_9 (by decide) (fun c_1 => absurd c_1 (by decide)) (fun c_1 => ?_)
  refine lv_aload_n hx hb dX8_countUnits_12 rfl (lv_at hl 2 rfl) ?_
  refine va_get (D := D) (ci := 12) (v := .ref (q 7)) (C := RX8) (T := TX8) (N := 10) hx hb hts (fun w9 h9 => fz_m (fin_X8 w9 h9)) hown hK hP 1 rfl rfl 7 (by decide) (hts _ (fz_m fm_46)) (fun _ h9 => h9) rfl dX8_countUnits_13 ?_
  refine lv_aload_n hx hb dX8_countUnits_16 rfl (lv_at hl 2 rfl) ?_
  refine va_get (D := D) (ci := 12) (v := .ref (q 2)) (C := RX8) (T := TX8) (N := 10) hx hb hts (fun w9 h9 => fz_m (fin_X8 w9 h9)) hown hK hP 1 rfl rfl 2 (by decide) (hts _ (fz_m fm_41)) (fun _ h9 => h9) rfl dX8_countUnits_17 ?_
  refine lv_iload_n hx hb dX8_countUnits_20 rfl (lv_at hl 0 rfl) ?_
  refine va_iald hx hb hK hP 2 0 rfl rfl (fz_vin (by decide)) dX8_countUnits_21 ?_
  refine fz_I (y := 0) g_f_2_0 ?_
  refine va_iald hx hb hK hP 7 0 rfl rfl (fz_vin (by decide)) dX8_countUnits_22 ?_
  refine fz_I (y := 0) g_f_7_0 ?_
  refine lv_if_le (tgt := 29) hx hb dX8_countUnits_23 (by decide) (fun c_2 => ?_) (fun c_2 => absurd (by decide) c_2)
  refine lv_iinc (v := 1) (lv' := [(2, .int 1), (1, .int 0), (0, .ref (q 1))]) hx hb dX8_countUnits_29 hl (k := 0) rfl (by decide) (by decide) rfl (fun ls hl => ?_)
  refine lv_goto (tgt := 4) hx hb dX8_countUnits_32 (by decide) ?_
  refine lv_iload_n hx hb dX8_countUnits_4 rfl (lv_at hl 0 rfl) ?_
  refine lv_aload_n hx hb dX8_countUnits_5 rfl (lv_at hl 2 rfl) ?_
  refine va_get (D := D) (ci := 12) (v := .int (v 2)) (C := RX8) (T := TX8) (N := 10) hx hb hts (fun w9 h9 => fz_m (fin_X8 w9 h9)) hown hK hP 1 rfl rfl 1 (by decide) (hts _ (fz_m fm_2)) (fun _ h9 => h9) rfl dX8_countUnits_6 ?_
  refine fz_I (y := 1) g_v_2 ?_
  refine lv_icmp_ge (tgt := 35) hx hb dX8_countUnits_9 (by decide) (fun c_3 => ?_) (fun c_3 => absurd (by decide) c_3)
  refine lv_iload_n hx hb dX8_countUnits_35 rfl (lv_at hl 1 rfl) ?_
  exact fz_iret hx hb hr rfl hlocks hS dX8_countUnits_36 () rfl hP (Nat.le_of_ble_eq_true rfl) (Nat.le_of_ble_eq_true rfl)

set_option maxHeartbeats 4000000 in
set_option maxRecDepth 100000 in
theorem c_countChildren (l : Launch) (A : Nat → Prop) (D : va_G) (k : Nat → ClassId) (q : Nat → Nat) (f : Nat → Nat → Int32) (pa : Nat → Option Nat) (v : Nat → Int32) (g_v_2 : v 2 = 1) (g_f_2_0 : f 2 0 = 0) (g_f_5_0 : f 5 0 = (-1))  :
    Met l yX8_countChildren (fz_ws yX8_countChildren cX8_countChildren 4 (some .int)) { frames := 0, cells := 0, slots := 0, locals := 0 } (va_Pc [.ref (q 1), .int 0] (fz_PC A D (fz_tys k) (fz_WC k q f pa v))) (fz_QI D A (fun (_ : Unit) => fz_WC k q f pa v) (fun (r : Int32) (_ : Unit) => r = 0)) 0 0 A := by
  refine fz_of (by decide +kernel) (Nat.le_of_ble_eq_true rfl) ?_
  intro p e s m below meth c hx hb hr hml hown hlocks hts hin hA hP hK hD hG hS ls hl
  have hown : s.vm.findClass RX8 = some m.cls := hown
  have S0 : CallFix p m c cX8_countChildren 4 s [.ref (q 1), .int 0].toArray (fz_ws yX8_countChildren cX8_countChildren 4 (some .int)) RX8 := ⟨hx, hb, hml, hown, hts⟩
  have hl : lv_has ls 4 [(0, .ref (q 1)), (1, .int 0)] := hl
  refine lv_iconst (v := 0) hx hb dX8_countChildren_0 (by decide) ?_
  refine lv_istore_n (lv' := [(2, .int 0), (0, .ref (q 1)), (1, .int 0)]) hx hb dX8_countChildren_1 rfl hl (by decide) rfl (fun ls hl => ?_)
  refine lv_iconst (v := 0) hx hb dX8_countChildren_2 (by decide) ?_
  refine lv_istore_n (lv' := [(3, .int 0), (2, .int 0), (0, .ref (q 1)), (1, .int 0)]) hx hb dX8_countChildren_3 rfl hl (by decide) rfl (fun ls hl => ?_)
  refine lv_iload_n hx hb dX8_countChildren_4 rfl (lv_at hl 0 rfl) ?_
  refine lv_aload_n hx hb dX8_countChildren_5 rfl (lv_at hl 2 rfl) ?_
  refine va_get (D := D) (ci := 12) (v := .int (v 2)) (C := RX8) (T := TX8) (N := 10) hx hb hts (fun w9 h9 => fz_m (fin_X8 w9 h9)) hown hK hP 1 rfl rfl 1 (by decide) (hts _ (fz_m fm_2)) (fun _ h9 => h9) rfl dX8_countChildren_6 ?_
  refine fz_I (y := 1) g_v_2 ?_
  refine lv_icmp_ge (tgt := 36) hx hb dX8_countChildren_9 (by decide) (fun c_1 => absurd c_1 (by decide)) (fun c_1 => ?_)
  refine lv_aload_n hx hb dX8_countChildren_12 rfl (lv_at hl 2 rfl) ?_
  refine va_get (D := D) (ci := 12) (v := .ref (q 5)) (C := RX8) (T := TX8) (N := 10) hx hb hts (fun w9 h9 => fz_m (fin_X8 w9 h9)) hown hK hP 1 rfl rfl 5 (by decide) (hts _ (fz_m fm_47)) (fun _ h9 => h9) rfl dX8_countChildren_13 ?_
  refine lv_aload_n hx hb dX8_countChildren_16 rfl (lv_at hl 2 rfl) ?_
  refine va_get (D := D) (ci := 12) (v := .ref (q 2)) (C := RX8) (T := TX8) (N := 10) hx hb hts (fun w9 h9 => fz_m (fin_X8 w9 h9)) hown hK hP 1 rfl rfl 2 (by decide) (hts _ (fz_m fm_41)) (fun _ h9 => h9) rfl dX8_countChildren_17 ?_
  refine lv_iload_n hx hb dX8_countChildren_20 rfl (lv_at hl 0 rfl) ?_
  refine va_iald hx hb hK hP 2 0 rfl rfl (fz_vin (by decide)) dX8_countChildren_21 ?_
  refine fz_I (y := 0) g_f_2_0 ?_
  refine va_iald hx hb hK hP 5 0 rfl rfl (fz_vin (by decide)) dX8_countChildren_22 ?_
  refine fz_I (y := (-1)) g_f_5_0 ?_
  refine lv_iload_n hx hb dX8_countChildren_23 rfl (lv_at hl 3 rfl) ?_
  refine lv_icmp_ne (tgt := 30) hx hb dX8_countChildren_24 (by decide) (fun c_2 => ?_) (fun c_2 => absurd c_2 (by decide))
  refine lv_iinc (v := 1) (lv' := [(3, .int 1), (2, .int 0), (0, .ref (q 1)), (1, .int 0)]) hx hb dX8_countChildren_30 hl (k := 0) rfl (by decide) (by decide) rfl (fun ls hl => ?_)
  refine lv_goto (tgt := 4) hx hb dX8_countChildren_33 (by decide) ?_
  refine lv_iload_n hx hb dX8_countChildren_4 rfl (lv_at hl 0 rfl) ?_
  refine lv_aload_n hx hb dX8_countChildren_5 rfl (lv_at hl 2 rfl) ?_
  refine va_get (D := D) (ci := 12) (v := .int (v 2)) (C := RX8) (T := TX8) (N := 10) hx hb hts (fun w9 h9 => fz_m (fin_X8 w9 h9)) hown hK hP 1 rfl rfl 1 (by decide) (hts _ (fz_m fm_2)) (fun _ h9 => h9) rfl dX8_countChildren_6 ?_
  refine fz_I (y := 1) g_v_2 ?_
  refine lv_icmp_ge (tgt := 36) hx hb dX8_countChildren_9 (by decide) (fun c_3 => ?_) (fun c_3 => absurd (by decide) c_3)
  refine lv_iload_n hx hb dX8_countChildren_36 rfl (lv_at hl 1 rfl) ?_
  exact fz_iret hx hb hr rfl hlocks hS dX8_countChildren_37 () rfl hP (Nat.le_of_ble_eq_true rfl) (Nat.le_of_ble_eq_true rfl)

set_option maxHeartbeats 4000000 in
set_option maxRecDepth 100000 in
theorem c_findChild (l : Launch) (A : Nat → Prop) (D : va_G) (k : Nat → ClassId) (q : Nat → Nat) (f : Nat → Nat → Int32) (pa : Nat → Option Nat) (v : Nat → Int32) (p0 : Int32) (g_v_2 : v 2 = 1) (g_f_2_0 : f 2 0 = 0) (g_f_5_0 : f 5 0 = (-1))  :
    Met l yX8_findChild (fz_ws yX8_findChild cX8_findChild 5 (some .int)) { frames := 0, cells := 0, slots := 0, locals := 0 } (va_Pc [.ref (q 1), .int 0, .int p0] (fz_PC A D (fz_tys k) (fz_WC k q f pa v))) (fz_QI D A (fun (_ : Unit) => fz_WC k q f pa v) (fun (r : Int32) (_ : Unit) => r = (-1))) 0 0 A := by
  refine fz_of (by decide +kernel) (Nat.le_of_ble_eq_true rfl) ?_
  intro p e s m below meth c hx hb hr hml hown hlocks hts hin hA hP hK hD hG hS ls hl
  have hown : s.vm.findClass RX8 = some m.cls := hown
  have S0 : CallFix p m c cX8_findChild 5 s [.ref (q 1), .int 0, .int p0].toArray (fz_ws yX8_findChild cX8_findChild 5 (some .int)) RX8 := ⟨hx, hb, hml, hown, hts⟩
  have hl : lv_has ls 5 [(0, .ref (q 1)), (1, .int 0), (2, .int p0)] := hl
  refine lv_iconst (v := 0) hx hb dX8_findChild_0 (by decide) ?_
  refine lv_istore_n (lv' := [(3, .int 0), (0, .ref (q 1)), (1, .int 0), (2, .int p0)]) hx hb dX8_findChild_1 rfl hl (by decide) rfl (fun ls hl => ?_)
  refine lv_iconst (v := 0) hx hb dX8_findChild_2 (by decide) ?_
  refine lv_istore (lv' := [(4, .int 0), (3, .int 0), (0, .ref (q 1)), (1, .int 0), (2, .int p0)]) hx hb dX8_findChild_3 hl (by decide) rfl (fun ls hl => ?_)
  refine lv_iload hx hb dX8_findChild_5 (lv_at hl 0 rfl) ?_
  refine lv_aload_n hx hb dX8_findChild_7 rfl (lv_at hl 2 rfl) ?_
  refine va_get (D := D) (ci := 12) (v := .int (v 2)) (C := RX8) (T := TX8) (N := 10) hx hb hts (fun w9 h9 => fz_m (fin_X8 w9 h9)) hown hK hP 1 rfl rfl 1 (by decide) (hts _ (fz_m fm_2)) (fun _ h9 => h9) rfl dX8_findChild_8 ?_
  refine fz_I (y := 1) g_v_2 ?_
  refine lv_icmp_ge (tgt := 52) hx hb dX8_findChild_11 (by decide) (fun c_1 => absurd c_1 (by decide)) (fun c_1 => ?_)
  refine lv_aload_n hx hb dX8_findChild_14 rfl (lv_at hl 2 rfl) ?_
  refine va_get (D := D) (ci := 12) (v := .ref (q 5)) (C := RX8) (T := TX8) (N := 10) hx hb hts (fun w9 h9 => fz_m (fin_X8 w9 h9)) hown hK hP 1 rfl rfl 5 (by decide) (hts _ (fz_m fm_47)) (fun _ h9 => h9) rfl dX8_findChild_15 ?_
  refine lv_aload_n hx hb dX8_findChild_18 rfl (lv_at hl 2 rfl) ?_
  refine va_get (D := D) (ci := 12) (v := .ref (q 2)) (C := RX8) (T := TX8) (N := 10) hx hb hts (fun w9 h9 => fz_m (fin_X8 w9 h9)) hown hK hP 1 rfl rfl 2 (by decide) (hts _ (fz_m fm_41)) (fun _ h9 => h9) rfl dX8_findChild_19 ?_
  refine lv_iload hx hb dX8_findChild_22 (lv_at hl 0 rfl) ?_
  refine va_iald hx hb hK hP 2 0 rfl rfl (fz_vin (by decide)) dX8_findChild_24 ?_
  refine fz_I (y := 0) g_f_2_0 ?_
  refine va_iald hx hb hK hP 5 0 rfl rfl (fz_vin (by decide)) dX8_findChild_25 ?_
  refine fz_I (y := (-1)) g_f_5_0 ?_
  refine lv_iload_n hx hb dX8_findChild_26 rfl (lv_at hl 3 rfl) ?_
  refine lv_icmp_ne (tgt := 46) hx hb dX8_findChild_27 (by decide) (fun c_2 => ?_) (fun c_2 => absurd c_2 (by decide))
  refine lv_iinc (v := 1) (lv' := [(4, .int 1), (3, .int 0), (0, .ref (q 1)), (1, .int 0), (2, .int p0)]) hx hb dX8_findChild_46 hl (k := 0) rfl (by decide) (by decide) rfl (fun ls hl => ?_)
  refine lv_goto (tgt := 5) hx hb dX8_findChild_49 (by decide) ?_
  refine lv_iload hx hb dX8_findChild_5 (lv_at hl 0 rfl) ?_
  refine lv_aload_n hx hb dX8_findChild_7 rfl (lv_at hl 2 rfl) ?_
  refine va_get (D := D) (ci := 12) (v := .int (v 2)) (C := RX8) (T := TX8) (N := 10) hx hb hts (fun w9 h9 => fz_m (fin_X8 w9 h9)) hown hK hP 1 rfl rfl 1 (by decide) (hts _ (fz_m fm_2)) (fun _ h9 => h9) rfl dX8_findChild_8 ?_
  refine fz_I (y := 1) g_v_2 ?_
  refine lv_icmp_ge (tgt := 52) hx hb dX8_findChild_11 (by decide) (fun c_3 => ?_) (fun c_3 => absurd (by decide) c_3)
  refine lv_iconst (v := (-1)) hx hb dX8_findChild_52 (by decide) ?_
  exact fz_iret hx hb hr rfl hlocks hS dX8_findChild_53 () rfl hP (Nat.le_of_ble_eq_true rfl) (Nat.le_of_ble_eq_true rfl)

set_option maxHeartbeats 4000000 in
set_option maxRecDepth 100000 in
theorem c_depth (l : Launch) (A : Nat → Prop) (D : va_G) (k : Nat → ClassId) (q : Nat → Nat) (f : Nat → Nat → Int32) (pa : Nat → Option Nat) (v : Nat → Int32) (g_f_5_0 : f 5 0 = (-1))  :
    Met l yX8_depth (fz_ws yX8_depth cX8_depth 4 (some .int)) { frames := 0, cells := 0, slots := 0, locals := 0 } (va_Pc [.ref (q 1), .int 0] (fz_PC A D (fz_tys k) (fz_WC k q f pa v))) (fz_QI D A (fun (_ : Unit) => fz_WC k q f pa v) (fun (r : Int32) (_ : Unit) => r = 0)) 0 0 A := by
  refine fz_of (by decide +kernel) (Nat.le_of_ble_eq_true rfl) ?_
  intro p e s m below meth c hx hb hr hml hown hlocks hts hin hA hP hK hD hG hS ls hl
  have hown : s.vm.findClass RX8 = some m.cls := hown
  have S0 : CallFix p m c cX8_depth 4 s [.ref (q 1), .int 0].toArray (fz_ws yX8_depth cX8_depth 4 (some .int)) RX8 := ⟨hx, hb, hml, hown, hts⟩
  have hl : lv_has ls 4 [(0, .ref (q 1)), (1, .int 0)] := hl
  refine lv_iconst (v := 0) hx hb dX8_depth_0 (by decide) ?_
  refine lv_istore_n (lv' := [(2, .int 0), (0, .ref (q 1)), (1, .int 0)]) hx hb dX8_depth_1 rfl hl (by decide) rfl (fun ls hl => ?_)
  refine lv_aload_n hx hb dX8_depth_2 rfl (lv_at hl 1 rfl) ?_
  refine va_get (D := D) (ci := 12) (v := .ref (q 5)) (C := RX8) (T := TX8) (N := 10) hx hb hts (fun w9 h9 => fz_m (fin_X8 w9 h9)) hown hK hP 1 rfl rfl 5 (by decide) (hts _ (fz_m fm_47)) (fun _ h9 => h9) rfl dX8_depth_3 ?_
  refine lv_iload_n hx hb dX8_depth_6 rfl (lv_at hl 2 rfl) ?_
  refine va_iald hx hb hK hP 5 0 rfl rfl (fz_vin (by decide)) dX8_depth_7 ?_
  refine fz_I (y := (-1)) g_f_5_0 ?_
  refine lv_istore_n (lv' := [(3, .int (-1)), (2, .int 0), (0, .ref (q 1)), (1, .int 0)]) hx hb dX8_depth_8 rfl hl (by decide) rfl (fun ls hl => ?_)
  refine lv_iload_n hx hb dX8_depth_9 rfl (lv_at hl 1 rfl) ?_
  refine lv_iconst (v := 3) hx hb dX8_depth_10 (by decide) ?_
  refine lv_icmp_ge (tgt := 32) hx hb dX8_depth_11 (by decide) (fun c_1 => absurd c_1 (by decide)) (fun c_1 => ?_)
  refine lv_iload_n hx hb dX8_depth_14 rfl (lv_at hl 0 rfl) ?_
  refine lv_iconst (v := (-1)) hx hb dX8_depth_15 (by decide) ?_
  refine lv_icmp_eq (tgt := 32) hx hb dX8_depth_16 (by decide) (fun c_2 => ?_) (fun c_2 => absurd (by decide) c_2)
  refine lv_iload_n hx hb dX8_depth_32 rfl (lv_at hl 1 rfl) ?_
  exact fz_iret hx hb hr rfl hlocks hS dX8_depth_33 () rfl hP (Nat.le_of_ble_eq_true rfl) (Nat.le_of_ble_eq_true rfl)

set_option maxHeartbeats 4000000 in
set_option maxRecDepth 100000 in
theorem c_deciding (l : Launch) (A : Nat → Prop) (D : va_G) (k : Nat → ClassId) (q : Nat → Nat) (f : Nat → Nat → Int32) (pa : Nat → Option Nat) (v : Nat → Int32) (g_f_11_0 : f 11 0 = (-1)) (g_f_5_0 : f 5 0 = (-1))  :
    Met l yX6_decidingNode (fz_ws yX6_decidingNode cX6_decidingNode 7 (some .int)) { frames := 0, cells := 0, slots := 0, locals := 0 } (va_Pc [.ref (q 10), .ref (q 1), .int 0] (fz_PC A D (fz_tys k) (fz_WC k q f pa v))) (fz_QI D A (fun (_ : Unit) => fz_WC k q f pa v) (fun (r : Int32) (_ : Unit) => r = (-1))) 0 0 A := by
  refine fz_of (by decide +kernel) (Nat.le_of_ble_eq_true rfl) ?_
  intro p e s m below meth c hx hb hr hml hown hlocks hts hin hA hP hK hD hG hS ls hl
  have hown : s.vm.findClass RX6 = some m.cls := hown
  have S0 : CallFix p m c cX6_decidingNode 7 s [.ref (q 10), .ref (q 1), .int 0].toArray (fz_ws yX6_decidingNode cX6_decidingNode 7 (some .int)) RX6 := ⟨hx, hb, hml, hown, hts⟩
  have hl : lv_has ls 7 [(0, .ref (q 10)), (1, .ref (q 1)), (2, .int 0)] := hl
  refine lv_iconst (v := (-1)) hx hb dX6_decidingNode_0 (by decide) ?_
  refine lv_istore_n (lv' := [(3, .int (-1)), (0, .ref (q 10)), (1, .ref (q 1)), (2, .int 0)]) hx hb dX6_decidingNode_1 rfl hl (by decide) rfl (fun ls hl => ?_)
  refine lv_iconst (v := 0) hx hb dX6_decidingNode_2 (by decide) ?_
  refine lv_istore (lv' := [(4, .int 0), (3, .int (-1)), (0, .ref (q 10)), (1, .ref (q 1)), (2, .int 0)]) hx hb dX6_decidingNode_3 hl (by decide) rfl (fun ls hl => ?_)
  refine lv_iload_n hx hb dX6_decidingNode_5 rfl (lv_at hl 4 rfl) ?_
  refine lv_istore (lv' := [(5, .int 0), (4, .int 0), (3, .int (-1)), (0, .ref (q 10)), (1, .ref (q 1)), (2, .int 0)]) hx hb dX6_decidingNode_6 hl (by decide) rfl (fun ls hl => ?_)
  refine lv_iconst (v := 0) hx hb dX6_decidingNode_8 (by decide) ?_
  refine lv_istore (lv' := [(6, .int 0), (5, .int 0), (4, .int 0), (3, .int (-1)), (0, .ref (q 10)), (1, .ref (q 1)), (2, .int 0)]) hx hb dX6_decidingNode_9 hl (by decide) rfl (fun ls hl => ?_)
  refine lv_iload hx hb dX6_decidingNode_11 (lv_at hl 0 rfl) ?_
  refine lv_iconst (v := 3) hx hb dX6_decidingNode_13 (by decide) ?_
  refine lv_icmp_gt (tgt := 99) hx hb dX6_decidingNode_14 (by decide) (fun c_1 => absurd c_1 (by decide)) (fun c_1 => ?_)
  refine lv_iload hx hb dX6_decidingNode_17 (lv_at hl 1 rfl) ?_
  refine lv_iconst (v := (-1)) hx hb dX6_decidingNode_19 (by decide) ?_
  refine lv_icmp_eq (tgt := 99) hx hb dX6_decidingNode_20 (by decide) (fun c_2 => absurd c_2 (by decide)) (fun c_2 => ?_)
  refine lv_aload_n hx hb dX6_decidingNode_23 rfl (lv_at hl 4 rfl) ?_
  refine va_get (D := D) (ci := 10) (v := .ref (q 11)) (C := RX6) (T := TX6) (N := 3) hx hb hts (fun w9 h9 => fz_m (fin_X6 w9 h9)) hown hK hP 10 rfl rfl 0 (by decide) (hts _ (fz_m fm_48)) (fun _ h9 => h9) rfl dX6_decidingNode_24 ?_
  refine lv_iload hx hb dX6_decidingNode_27 (lv_at hl 1 rfl) ?_
  refine va_iald hx hb hK hP 11 0 rfl rfl (fz_vin (by decide)) dX6_decidingNode_29 ?_
  refine fz_I (y := (-1)) g_f_11_0 ?_
  refine lv_iconst (v := 2) hx hb dX6_decidingNode_30 (by decide) ?_
  refine lv_icmp_eq (tgt := 99) hx hb dX6_decidingNode_31 (by decide) (fun c_3 => absurd c_3 (by decide)) (fun c_3 => ?_)
  refine lv_aload_n hx hb dX6_decidingNode_34 rfl (lv_at hl 4 rfl) ?_
  refine va_get (D := D) (ci := 10) (v := .ref (q 11)) (C := RX6) (T := TX6) (N := 3) hx hb hts (fun w9 h9 => fz_m (fin_X6 w9 h9)) hown hK hP 10 rfl rfl 0 (by decide) (hts _ (fz_m fm_48)) (fun _ h9 => h9) rfl dX6_decidingNode_35 ?_
  refine lv_iload hx hb dX6_decidingNode_38 (lv_at hl 1 rfl) ?_
  refine va_iald hx hb hK hP 11 0 rfl rfl (fz_vin (by decide)) dX6_decidingNode_40 ?_
  refine fz_I (y := (-1)) g_f_11_0 ?_
  refine lv_iconst (v := (-1)) hx hb dX6_decidingNode_41 (by decide) ?_
  refine lv_icmp_eq (tgt := 69) hx hb dX6_decidingNode_42 (by decide) (fun c_4 => ?_) (fun c_4 => absurd (by decide) c_4)
  refine lv_aload_n hx hb dX6_decidingNode_69 rfl (lv_at hl 4 rfl) ?_
  refine va_get (D := D) (ci := 10) (v := .ref (q 11)) (C := RX6) (T := TX6) (N := 3) hx hb hts (fun w9 h9 => fz_m (fin_X6 w9 h9)) hown hK hP 10 rfl rfl 0 (by decide) (hts _ (fz_m fm_48)) (fun _ h9 => h9) rfl dX6_decidingNode_70 ?_
  refine lv_iload hx hb dX6_decidingNode_73 (lv_at hl 1 rfl) ?_
  refine va_iald hx hb hK hP 11 0 rfl rfl (fz_vin (by decide)) dX6_decidingNode_75 ?_
  refine fz_I (y := (-1)) g_f_11_0 ?_
  refine lv_iconst (v := 1) hx hb dX6_decidingNode_76 (by decide) ?_
  refine lv_icmp_ne (tgt := 84) hx hb dX6_decidingNode_77 (by decide) (fun c_5 => ?_) (fun c_5 => absurd c_5 (by decide))
  refine lv_aload_n hx hb dX6_decidingNode_84 rfl (lv_at hl 5 rfl) ?_
  refine va_get (D := D) (ci := 12) (v := .ref (q 5)) (C := RX8) (T := TX8) (N := 10) hx hb hts (fun w9 h9 => fz_m (fin_X8 w9 h9)) hown hK hP 1 rfl rfl 5 (by decide) (hts _ (fz_m fm_49)) (fun _ h9 => h9) rfl dX6_decidingNode_85 ?_
  refine lv_iload hx hb dX6_decidingNode_88 (lv_at hl 1 rfl) ?_
  refine va_iald hx hb hK hP 5 0 rfl rfl (fz_vin (by decide)) dX6_decidingNode_90 ?_
  refine fz_I (y := (-1)) g_f_5_0 ?_
  refine lv_istore (lv' := [(5, .int (-1)), (6, .int 0), (4, .int 0), (3, .int (-1)), (0, .ref (q 10)), (1, .ref (q 1)), (2, .int 0)]) hx hb dX6_decidingNode_91 hl (by decide) rfl (fun ls hl => ?_)
  refine lv_iinc (v := 1) (lv' := [(6, .int 1), (5, .int (-1)), (4, .int 0), (3, .int (-1)), (0, .ref (q 10)), (1, .ref (q 1)), (2, .int 0)]) hx hb dX6_decidingNode_93 hl (k := 1) rfl (by decide) (by decide) rfl (fun ls hl => ?_)
  refine lv_goto (tgt := 11) hx hb dX6_decidingNode_96 (by decide) ?_
  refine lv_iload hx hb dX6_decidingNode_11 (lv_at hl 0 rfl) ?_
  refine lv_iconst (v := 3) hx hb dX6_decidingNode_13 (by decide) ?_
  refine lv_icmp_gt (tgt := 99) hx hb dX6_decidingNode_14 (by decide) (fun c_6 => absurd c_6 (by decide)) (fun c_6 => ?_)
  refine lv_iload hx hb dX6_decidingNode_17 (lv_at hl 1 rfl) ?_
  refine lv_iconst (v := (-1)) hx hb dX6_decidingNode_19 (by decide) ?_
  refine lv_icmp_eq (tgt := 99) hx hb dX6_decidingNode_20 (by decide) (fun c_7 => ?_) (fun c_7 => absurd (by decide) c_7)
  refine lv_iload_n hx hb dX6_decidingNode_99 rfl (lv_at hl 3 rfl) ?_
  exact fz_iret hx hb hr rfl hlocks hS dX6_decidingNode_100 () rfl hP (Nat.le_of_ble_eq_true rfl) (Nat.le_of_ble_eq_true rfl)

set_option maxHeartbeats 4000000 in
set_option maxRecDepth 100000 in
theorem c_term (l : Launch) (A : Nat → Prop) (D : va_G) (k : Nat → ClassId) (q : Nat → Nat) (f : Nat → Nat → Int32) (pa : Nat → Option Nat) (v : Nat → Int32) (g_f_11_0 : f 11 0 = (-1)) (g_f_5_0 : f 5 0 = (-1))  :
    Met l yX6_term (fz_ws yX6_term cX6_term 4 (some .int)) { frames := 12, cells := 0, slots := 0, locals := 160 } (va_Pc [.ref (q 10), .ref (q 1), .int 0] (fz_PC A D (fz_tys k) (fz_WC k q f pa v))) (fz_QI D A (fun (_ : Unit) => fz_WC k q f pa v) (fun (r : Int32) (_ : Unit) => r = 0)) 0 0 A := by
  refine fz_of (by decide +kernel) (Nat.le_of_ble_eq_true rfl) ?_
  intro p e s m below meth c hx hb hr hml hown hlocks hts hin hA hP hK hD hG hS ls hl
  have hown : s.vm.findClass RX6 = some m.cls := hown
  have S0 : CallFix p m c cX6_term 4 s [.ref (q 10), .ref (q 1), .int 0].toArray (fz_ws yX6_term cX6_term 4 (some .int)) RX6 := ⟨hx, hb, hml, hown, hts⟩
  have hl : lv_has ls 4 [(0, .ref (q 10)), (1, .ref (q 1)), (2, .int 0)] := hl
  refine lv_aload_n hx hb dX6_term_0 rfl (lv_at hl 0 rfl) ?_
  refine lv_aload_n hx hb dX6_term_1 rfl (lv_at hl 1 rfl) ?_
  refine lv_iload_n hx hb dX6_term_2 rfl (lv_at hl 2 rfl) ?_
  refine fz_cVi (As := [.ref (q 1), .int 0]) (rest := []) S0 (c_deciding l A D k q f pa v g_f_11_0 g_f_5_0) (fz_cwV (C := RX6) 2 hts fm_50 fm_51 fm_52 fm_53 fm_54 rfl rfl ⟨by decide, by decide, by decide +kernel⟩ ⟨Nat.le_of_ble_eq_true rfl, Nat.le_of_ble_eq_true rfl⟩) (va_recv hK hP (ci := 10) (q0 := 10) rfl rfl) (fun _ h9 => h9) (fun a9 h9 => hA a9 (Nat.le_trans hS.1 h9)) hG hS hP hK hD rfl hl.1 rfl (Nat.le_of_ble_eq_true rfl) dX6_term_3 ⟨Nat.le_of_ble_eq_true rfl, Nat.le_of_ble_eq_true rfl⟩ (fun r_1 u_1 H locs hw hz1 hk1 hP hS => ?_)
  have hP : va_P D vwCl (fz_WC k q f pa v) H := hP
  obtain rfl : r_1 = (-1) := hw
  refine lv_istore_n (lv' := [(3, .int (-1)), (0, .ref (q 10)), (1, .ref (q 1)), (2, .int 0)]) hx hb dX6_term_6 rfl hl (by decide) rfl (fun ls hl => ?_)
  refine lv_iload_n hx hb dX6_term_7 rfl (lv_at hl 0 rfl) ?_
  refine lv_iconst (v := (-1)) hx hb dX6_term_8 (by decide) ?_
  refine lv_icmp_ne (tgt := 16) hx hb dX6_term_9 (by decide) (fun c_2 => absurd (by decide) c_2) (fun c_2 => ?_)
  refine lv_iconst (v := 0) hx hb dX6_term_12 (by decide) ?_
  refine lv_goto (tgt := 22) hx hb dX6_term_13 (by decide) ?_
  exact fz_iret hx hb hr rfl hlocks hS dX6_term_22 () rfl hP (Nat.le_of_ble_eq_true rfl) (Nat.le_of_ble_eq_true rfl)

set_option maxHeartbeats 4000000 in
set_option maxRecDepth 100000 in
theorem c_lastDay (l : Launch) (A : Nat → Prop) (D : va_G) (k : Nat → ClassId) (q : Nat → Nat) (f : Nat → Nat → Int32) (pa : Nat → Option Nat) (v : Nat → Int32)   :
    Met l yX6_lastDay (fz_ws yX6_lastDay cX6_lastDay 2 (some .int)) { frames := 0, cells := 0, slots := 0, locals := 0 } (va_Pc [.int 0, .int (-1)] (fz_PC A D (fz_tys k) (fz_WC k q f pa v))) (fz_QI D A (fun (_ : Unit) => fz_WC k q f pa v) (fun (r : Int32) (_ : Unit) => r = (-1))) 0 0 A := by
  refine fz_of (by decide +kernel) (Nat.le_of_ble_eq_true rfl) ?_
  intro p e s m below meth c hx hb hr hml hown hlocks hts hin hA hP hK hD hG hS ls hl
  have hown : s.vm.findClass RX6 = some m.cls := hown
  have S0 : CallFix p m c cX6_lastDay 2 s [.int 0, .int (-1)].toArray (fz_ws yX6_lastDay cX6_lastDay 2 (some .int)) RX6 := ⟨hx, hb, hml, hown, hts⟩
  have hl : lv_has ls 2 [(0, .int 0), (1, .int (-1))] := hl
  refine lv_iload_n hx hb dX6_lastDay_0 rfl (lv_at hl 0 rfl) ?_
  refine lv_if_ne (tgt := 6) hx hb dX6_lastDay_1 (by decide) (fun c_1 => absurd (by decide) c_1) (fun c_1 => ?_)
  refine lv_iconst (v := (-1)) hx hb dX6_lastDay_4 (by decide) ?_
  exact fz_iret hx hb hr rfl hlocks hS dX6_lastDay_5 () rfl hP (Nat.le_of_ble_eq_true rfl) (Nat.le_of_ble_eq_true rfl)

set_option maxHeartbeats 4000000 in
set_option maxRecDepth 100000 in
theorem c_lastClosedDay (l : Launch) (A : Nat → Prop) (D : va_G) (k : Nat → ClassId) (q : Nat → Nat) (f : Nat → Nat → Int32) (pa : Nat → Option Nat) (v : Nat → Int32) (g_f_11_0 : f 11 0 = (-1)) (g_f_5_0 : f 5 0 = (-1)) (g_v_2 : v 2 = 1) (g_f_6_0 : f 6 0 = 0) (g_f_2_0 : f 2 0 = 0) (g_f_9_0 : f 9 0 = (-1))  :
    Met l yX6_lastClosedDay (fz_ws yX6_lastClosedDay cX6_lastClosedDay 3 (some .int)) { frames := 24, cells := 0, slots := 0, locals := 320 } (va_Pc [.ref (q 10), .ref (q 1), .int 0] (fz_PC A D (fz_tys k) (fz_WC k q f pa v))) (fz_QI D A (fun (_ : Unit) => fz_WC k q f pa v) (fun (r : Int32) (_ : Unit) => r = (-1))) 0 0 A := by
  refine fz_of (by decide +kernel) (Nat.le_of_ble_eq_true rfl) ?_
  intro p e s m below meth c hx hb hr hml hown hlocks hts hin hA hP hK hD hG hS ls hl
  have hown : s.vm.findClass RX6 = some m.cls := hown
  have S0 : CallFix p m c cX6_lastClosedDay 3 s [.ref (q 10), .ref (q 1), .int 0].toArray (fz_ws yX6_lastClosedDay cX6_lastClosedDay 3 (some .int)) RX6 := ⟨hx, hb, hml, hown, hts⟩
  have hl : lv_has ls 3 [(0, .ref (q 10)), (1, .ref (q 1)), (2, .int 0)] := hl
  refine lv_aload_n hx hb dX6_lastClosedDay_0 rfl (lv_at hl 0 rfl) ?_
  refine lv_aload_n hx hb dX6_lastClosedDay_1 rfl (lv_at hl 1 rfl) ?_
  refine lv_iload_n hx hb dX6_lastClosedDay_2 rfl (lv_at hl 2 rfl) ?_
  refine fz_cVi (As := [.ref (q 1), .int 0]) (rest := []) S0 (c_term l A D k q f pa v g_f_11_0 g_f_5_0) (fz_cwV (C := RX6) 2 hts fm_55 fm_56 fm_57 fm_58 fm_54 rfl rfl ⟨by decide, by decide, by decide +kernel⟩ ⟨Nat.le_of_ble_eq_true rfl, Nat.le_of_ble_eq_true rfl⟩) (va_recv hK hP (ci := 10) (q0 := 10) rfl rfl) (fun _ h9 => h9) (fun a9 h9 => hA a9 (Nat.le_trans hS.1 h9)) hG hS hP hK hD rfl hl.1 rfl (Nat.le_of_ble_eq_true rfl) dX6_lastClosedDay_3 ⟨Nat.le_of_ble_eq_true rfl, Nat.le_of_ble_eq_true rfl⟩ (fun r_1 u_1 H locs hw hz1 hk1 hP hS => ?_)
  have hP : va_P D vwCl (fz_WC k q f pa v) H := hP
  obtain rfl : r_1 = 0 := hw
  refine lv_aload_n hx hb dX6_lastClosedDay_6 rfl (lv_at hl 1 rfl) ?_
  refine lv_iload_n hx hb dX6_lastClosedDay_7 rfl (lv_at hl 2 rfl) ?_
  refine fz_cVi (As := [.int 0]) (rest := [.int 0]) S0 (c_latestDay l A D k q f pa v g_v_2 g_f_6_0 g_f_2_0 g_f_9_0) (fz_cwV (C := RX8) 1 hts fm_59 fm_60 fm_61 fm_62 fm_15 rfl rfl ⟨by decide, by decide, by decide +kernel⟩ ⟨Nat.le_of_ble_eq_true rfl, Nat.le_of_ble_eq_true rfl⟩) (va_recv hK hP (ci := 12) (q0 := 1) rfl rfl) (fun _ h9 => h9) (fun a9 h9 => hA a9 (Nat.le_trans hS.1 h9)) hG hS hP hK hD rfl hl.1 rfl (Nat.le_of_ble_eq_true rfl) dX6_lastClosedDay_8 ⟨Nat.le_of_ble_eq_true rfl, Nat.le_of_ble_eq_true rfl⟩ (fun r_2 u_2 H locs hw hz1 hk1 hP hS => ?_)
  have hP : va_P D vwCl (fz_WC k q f pa v) H := hP
  obtain rfl : r_2 = (-1) := hw
  refine fz_cSi (As := [.int 0, .int (-1)]) (rest := []) S0 (c_lastDay l A D k q f pa v ) (fz_cwS 2 hts fm_63 fm_64 fm_65 fm_54 rfl rfl ⟨by decide, by decide, by decide +kernel⟩ ⟨Nat.le_of_ble_eq_true rfl, Nat.le_of_ble_eq_true rfl⟩) (fun _ h9 => h9) (fun a9 h9 => hA a9 (Nat.le_trans hS.1 h9)) hG hS hP hK hD rfl hl.1 rfl (Nat.le_of_ble_eq_true rfl) dX6_lastClosedDay_11 ⟨Nat.le_of_ble_eq_true rfl, Nat.le_of_ble_eq_true rfl⟩ (fun r_3 u_3 H locs hw hz1 hk1 hP hS => ?_)
  have hP : va_P D vwCl (fz_WC k q f pa v) H := hP
  obtain rfl : r_3 = (-1) := hw
  exact fz_iret hx hb hr rfl hlocks hS dX6_lastClosedDay_14 () rfl hP (Nat.le_of_ble_eq_true rfl) (Nat.le_of_ble_eq_true rfl)

set_option maxHeartbeats 4000000 in
set_option maxRecDepth 100000 in
theorem c_openSet (l : Launch) (A : Nat → Prop) (D : va_G) (k : Nat → ClassId) (q : Nat → Nat) (f : Nat → Nat → Int32) (pa : Nat → Option Nat) (v : Nat → Int32) (p0 : Int32) (g_f_7_0 : f 7 0 = 0)  :
    Met l yX6_openSet (fz_ws yX6_openSet cX6_openSet 7 (some .int)) { frames := 0, cells := 0, slots := 0, locals := 0 } (va_Pc [.ref (q 10), .ref (q 1), .int 0, .int p0] (fz_PC A D (fz_tys k) (fz_WC k q f pa v))) (fz_QI D A (fun (_ : Unit) => fz_WC k q f pa v) (fun (r : Int32) (_ : Unit) => r = 0)) 0 0 A := by
  refine fz_of (by decide +kernel) (Nat.le_of_ble_eq_true rfl) ?_
  intro p e s m below meth c hx hb hr hml hown hlocks hts hin hA hP hK hD hG hS ls hl
  have hown : s.vm.findClass RX6 = some m.cls := hown
  have S0 : CallFix p m c cX6_openSet 7 s [.ref (q 10), .ref (q 1), .int 0, .int p0].toArray (fz_ws yX6_openSet cX6_openSet 7 (some .int)) RX6 := ⟨hx, hb, hml, hown, hts⟩
  have hl : lv_has ls 7 [(0, .ref (q 10)), (1, .ref (q 1)), (2, .int 0), (3, .int p0)] := hl
  refine lv_aload_n hx hb dX6_openSet_0 rfl (lv_at hl 1 rfl) ?_
  refine va_get (D := D) (ci := 12) (v := .ref (q 7)) (C := RX8) (T := TX8) (N := 10) hx hb hts (fun w9 h9 => fz_m (fin_X8 w9 h9)) hown hK hP 1 rfl rfl 7 (by decide) (hts _ (fz_m fm_66)) (fun _ h9 => h9) rfl dX6_openSet_1 ?_
  refine lv_iload_n hx hb dX6_openSet_4 rfl (lv_at hl 2 rfl) ?_
  refine va_iald hx hb hK hP 7 0 rfl rfl (fz_vin (by decide)) dX6_openSet_5 ?_
  refine fz_I (y := 0) g_f_7_0 ?_
  refine lv_if_eq (tgt := 19) hx hb dX6_openSet_6 (by decide) (fun c_1 => ?_) (fun c_1 => absurd (by decide) c_1)
  refine lv_iconst (v := 0) hx hb dX6_openSet_19 (by decide) ?_
  exact fz_iret hx hb hr rfl hlocks hS dX6_openSet_20 () rfl hP (Nat.le_of_ble_eq_true rfl) (Nat.le_of_ble_eq_true rfl)

set_option maxHeartbeats 4000000 in
set_option maxRecDepth 100000 in
theorem c_canOpen (l : Launch) (A : Nat → Prop) (D : va_G) (k : Nat → ClassId) (q : Nat → Nat) (f : Nat → Nat → Int32) (pa : Nat → Option Nat) (v : Nat → Int32) (g_v_4 : v 4 = 0) (g_v_3 : v 3 = 0)  :
    Met l yX0_canOpen (fz_ws yX0_canOpen cX0_canOpen 1 (some .boolean)) { frames := 0, cells := 0, slots := 0, locals := 0 } (va_Pc [.ref (q 14)] (fz_PC A D (fz_tys k) (fz_WC k q f pa v))) (fz_QI D A (fun (_ : Unit) => fz_WC k q f pa v) (fun (r : Int32) (_ : Unit) => r = 1)) 0 0 A := by
  refine fz_of (by decide +kernel) (Nat.le_of_ble_eq_true rfl) ?_
  intro p e s m below meth c hx hb hr hml hown hlocks hts hin hA hP hK hD hG hS ls hl
  have hown : s.vm.findClass RX0 = some m.cls := hown
  have S0 : CallFix p m c cX0_canOpen 1 s [.ref (q 14)].toArray (fz_ws yX0_canOpen cX0_canOpen 1 (some .boolean)) RX0 := ⟨hx, hb, hml, hown, hts⟩
  have hl : lv_has ls 1 [(0, .ref (q 14))] := hl
  refine lv_aload_n hx hb dX0_canOpen_0 rfl (lv_at hl 0 rfl) ?_
  refine va_get (D := D) (ci := 4) (v := .int (v 4)) (C := RX0) (T := TX0) (N := 9) hx hb hts (fun w9 h9 => fz_m (fin_X0 w9 h9)) hown hK hP 14 rfl rfl 1 (by decide) (hts _ (fz_m fm_67)) (fun _ h9 => h9) rfl dX0_canOpen_1 ?_
  refine fz_I (y := 0) g_v_4 ?_
  refine lv_bipush (v := 10) hx hb dX0_canOpen_4 (by decide) ?_
  refine lv_icmp_ge (tgt := 22) hx hb dX0_canOpen_6 (by decide) (fun c_1 => absurd c_1 (by decide)) (fun c_1 => ?_)
  refine lv_aload_n hx hb dX0_canOpen_9 rfl (lv_at hl 0 rfl) ?_
  refine va_get (D := D) (ci := 4) (v := .int (v 3)) (C := RX0) (T := TX0) (N := 9) hx hb hts (fun w9 h9 => fz_m (fin_X0 w9 h9)) hown hK hP 14 rfl rfl 0 (by decide) (hts _ (fz_m fm_7)) (fun _ h9 => h9) rfl dX0_canOpen_10 ?_
  refine fz_I (y := 0) g_v_3 ?_
  refine lv_bipush (v := 30) hx hb dX0_canOpen_13 (by decide) ?_
  refine lv_icmp_ge (tgt := 22) hx hb dX0_canOpen_15 (by decide) (fun c_2 => absurd c_2 (by decide)) (fun c_2 => ?_)
  refine lv_iconst (v := 1) hx hb dX0_canOpen_18 (by decide) ?_
  refine lv_goto (tgt := 23) hx hb dX0_canOpen_19 (by decide) ?_
  exact fz_iret hx hb hr rfl hlocks hS dX0_canOpen_23 () rfl hP (Nat.le_of_ble_eq_true rfl) (Nat.le_of_ble_eq_true rfl)

set_option maxHeartbeats 4000000 in
set_option maxRecDepth 100000 in
theorem c_unitOf (l : Launch) (A : Nat → Prop) (D : va_G) (k : Nat → ClassId) (q : Nat → Nat) (f : Nat → Nat → Int32) (pa : Nat → Option Nat) (v : Nat → Int32) (p0 p1 : Int32) (g_v_6 : v 6 = 0)  :
    Met l yX3_unitOf (fz_ws yX3_unitOf cX3_unitOf 5 (some .int)) { frames := 0, cells := 0, slots := 0, locals := 0 } (va_Pc [.ref (q 20), .int p0, .int p1] (fz_PC A D (fz_tys k) (fz_WC k q f pa v))) (fz_QI D A (fun (_ : Unit) => fz_WC k q f pa v) (fun (r : Int32) (_ : Unit) => r = (-1))) 0 0 A := by
  refine fz_of (by decide +kernel) (Nat.le_of_ble_eq_true rfl) ?_
  intro p e s m below meth c hx hb hr hml hown hlocks hts hin hA hP hK hD hG hS ls hl
  have hown : s.vm.findClass RX3 = some m.cls := hown
  have S0 : CallFix p m c cX3_unitOf 5 s [.ref (q 20), .int p0, .int p1].toArray (fz_ws yX3_unitOf cX3_unitOf 5 (some .int)) RX3 := ⟨hx, hb, hml, hown, hts⟩
  have hl : lv_has ls 5 [(0, .ref (q 20)), (1, .int p0), (2, .int p1)] := hl
  refine lv_iconst (v := 0) hx hb dX3_unitOf_0 (by decide) ?_
  refine lv_istore_n (lv' := [(3, .int 0), (0, .ref (q 20)), (1, .int p0), (2, .int p1)]) hx hb dX3_unitOf_1 rfl hl (by decide) rfl (fun ls hl => ?_)
  refine lv_iconst (v := 0) hx hb dX3_unitOf_2 (by decide) ?_
  refine lv_istore (lv' := [(4, .int 0), (3, .int 0), (0, .ref (q 20)), (1, .int p0), (2, .int p1)]) hx hb dX3_unitOf_3 hl (by decide) rfl (fun ls hl => ?_)
  refine lv_iload hx hb dX3_unitOf_5 (lv_at hl 0 rfl) ?_
  refine lv_aload_n hx hb dX3_unitOf_7 rfl (lv_at hl 2 rfl) ?_
  refine va_get (D := D) (ci := 7) (v := .int (v 6)) (C := RX3) (T := TX3) (N := 3) hx hb hts (fun w9 h9 => fz_m (fin_X3 w9 h9)) hown hK hP 20 rfl rfl 0 (by decide) (hts _ (fz_m fm_68)) (fun _ h9 => h9) rfl dX3_unitOf_8 ?_
  refine fz_I (y := 0) g_v_6 ?_
  refine lv_icmp_ge (tgt := 47) hx hb dX3_unitOf_11 (by decide) (fun c_1 => ?_) (fun c_1 => absurd (by decide) c_1)
  refine lv_iconst (v := (-1)) hx hb dX3_unitOf_47 (by decide) ?_
  exact fz_iret hx hb hr rfl hlocks hS dX3_unitOf_48 () rfl hP (Nat.le_of_ble_eq_true rfl) (Nat.le_of_ble_eq_true rfl)

set_option maxHeartbeats 4000000 in
set_option maxRecDepth 100000 in
theorem c_countReferring (l : Launch) (A : Nat → Prop) (D : va_G) (k : Nat → ClassId) (q : Nat → Nat) (f : Nat → Nat → Int32) (pa : Nat → Option Nat) (v : Nat → Int32) (g_v_6 : v 6 = 0)  :
    Met l yX3_countReferring (fz_ws yX3_countReferring cX3_countReferring 4 (some .int)) { frames := 0, cells := 0, slots := 0, locals := 0 } (va_Pc [.ref (q 20), .ref (q 1)] (fz_PC A D (fz_tys k) (fz_WC k q f pa v))) (fz_QI D A (fun (_ : Unit) => fz_WC k q f pa v) (fun (r : Int32) (_ : Unit) => r = 0)) 0 0 A := by
  refine fz_of (by decide +kernel) (Nat.le_of_ble_eq_true rfl) ?_
  intro p e s m below meth c hx hb hr hml hown hlocks hts hin hA hP hK hD hG hS ls hl
  have hown : s.vm.findClass RX3 = some m.cls := hown
  have S0 : CallFix p m c cX3_countReferring 4 s [.ref (q 20), .ref (q 1)].toArray (fz_ws yX3_countReferring cX3_countReferring 4 (some .int)) RX3 := ⟨hx, hb, hml, hown, hts⟩
  have hl : lv_has ls 4 [(0, .ref (q 20)), (1, .ref (q 1))] := hl
  refine lv_iconst (v := 0) hx hb dX3_countReferring_0 (by decide) ?_
  refine lv_istore_n (lv' := [(2, .int 0), (0, .ref (q 20)), (1, .ref (q 1))]) hx hb dX3_countReferring_1 rfl hl (by decide) rfl (fun ls hl => ?_)
  refine lv_iconst (v := 0) hx hb dX3_countReferring_2 (by decide) ?_
  refine lv_istore_n (lv' := [(3, .int 0), (2, .int 0), (0, .ref (q 20)), (1, .ref (q 1))]) hx hb dX3_countReferring_3 rfl hl (by decide) rfl (fun ls hl => ?_)
  refine lv_iload_n hx hb dX3_countReferring_4 rfl (lv_at hl 0 rfl) ?_
  refine lv_aload_n hx hb dX3_countReferring_5 rfl (lv_at hl 2 rfl) ?_
  refine va_get (D := D) (ci := 7) (v := .int (v 6)) (C := RX3) (T := TX3) (N := 3) hx hb hts (fun w9 h9 => fz_m (fin_X3 w9 h9)) hown hK hP 20 rfl rfl 0 (by decide) (hts _ (fz_m fm_68)) (fun _ h9 => h9) rfl dX3_countReferring_6 ?_
  refine fz_I (y := 0) g_v_6 ?_
  refine lv_icmp_ge (tgt := 34) hx hb dX3_countReferring_9 (by decide) (fun c_1 => ?_) (fun c_1 => absurd (by decide) c_1)
  refine lv_iload_n hx hb dX3_countReferring_34 rfl (lv_at hl 1 rfl) ?_
  exact fz_iret hx hb hr rfl hlocks hS dX3_countReferring_35 () rfl hP (Nat.le_of_ble_eq_true rfl) (Nat.le_of_ble_eq_true rfl)

set_option maxHeartbeats 4000000 in
set_option maxRecDepth 100000 in
theorem c_countOf (l : Launch) (A : Nat → Prop) (D : va_G) (k : Nat → ClassId) (q : Nat → Nat) (f : Nat → Nat → Int32) (pa : Nat → Option Nat) (v : Nat → Int32) (p0 : Int32) (g_v_7 : v 7 = 0)  :
    Met l yX1_countOf (fz_ws yX1_countOf cX1_countOf 4 (some .int)) { frames := 0, cells := 0, slots := 0, locals := 0 } (va_Pc [.ref (q 23), .int p0] (fz_PC A D (fz_tys k) (fz_WC k q f pa v))) (fz_QI D A (fun (_ : Unit) => fz_WC k q f pa v) (fun (r : Int32) (_ : Unit) => r = 0)) 0 0 A := by
  refine fz_of (by decide +kernel) (Nat.le_of_ble_eq_true rfl) ?_
  intro p e s m below meth c hx hb hr hml hown hlocks hts hin hA hP hK hD hG hS ls hl
  have hown : s.vm.findClass RX1 = some m.cls := hown
  have S0 : CallFix p m c cX1_countOf 4 s [.ref (q 23), .int p0].toArray (fz_ws yX1_countOf cX1_countOf 4 (some .int)) RX1 := ⟨hx, hb, hml, hown, hts⟩
  have hl : lv_has ls 4 [(0, .ref (q 23)), (1, .int p0)] := hl
  refine lv_iconst (v := 0) hx hb dX1_countOf_0 (by decide) ?_
  refine lv_istore_n (lv' := [(2, .int 0), (0, .ref (q 23)), (1, .int p0)]) hx hb dX1_countOf_1 rfl hl (by decide) rfl (fun ls hl => ?_)
  refine lv_iconst (v := 0) hx hb dX1_countOf_2 (by decide) ?_
  refine lv_istore_n (lv' := [(3, .int 0), (2, .int 0), (0, .ref (q 23)), (1, .int p0)]) hx hb dX1_countOf_3 rfl hl (by decide) rfl (fun ls hl => ?_)
  refine lv_iload_n hx hb dX1_countOf_4 rfl (lv_at hl 0 rfl) ?_
  refine lv_aload_n hx hb dX1_countOf_5 rfl (lv_at hl 2 rfl) ?_
  refine va_get (D := D) (ci := 5) (v := .int (v 7)) (C := RX1) (T := TX1) (N := 3) hx hb hts (fun w9 h9 => fz_m (fin_X1 w9 h9)) hown hK hP 23 rfl rfl 0 (by decide) (hts _ (fz_m fm_8)) (fun _ h9 => h9) rfl dX1_countOf_6 ?_
  refine fz_I (y := 0) g_v_7 ?_
  refine lv_icmp_ge (tgt := 31) hx hb dX1_countOf_9 (by decide) (fun c_1 => ?_) (fun c_1 => absurd (by decide) c_1)
  refine lv_iload_n hx hb dX1_countOf_31 rfl (lv_at hl 1 rfl) ?_
  exact fz_iret hx hb hr rfl hlocks hS dX1_countOf_32 () rfl hP (Nat.le_of_ble_eq_true rfl) (Nat.le_of_ble_eq_true rfl)

set_option maxHeartbeats 4000000 in
set_option maxRecDepth 100000 in
theorem c_countPresent (l : Launch) (A : Nat → Prop) (D : va_G) (k : Nat → ClassId) (q : Nat → Nat) (f : Nat → Nat → Int32) (pa : Nat → Option Nat) (v : Nat → Int32) (g_v_7 : v 7 = 0)  :
    Met l yX1_countPresent (fz_ws yX1_countPresent cX1_countPresent 1 (some .int)) { frames := 12, cells := 0, slots := 0, locals := 160 } (va_Pc [.ref (q 23)] (fz_PC A D (fz_tys k) (fz_WC k q f pa v))) (fz_QI D A (fun (_ : Unit) => fz_WC k q f pa v) (fun (r : Int32) (_ : Unit) => r = 0)) 0 0 A := by
  refine fz_of (by decide +kernel) (Nat.le_of_ble_eq_true rfl) ?_
  intro p e s m below meth c hx hb hr hml hown hlocks hts hin hA hP hK hD hG hS ls hl
  have hown : s.vm.findClass RX1 = some m.cls := hown
  have S0 : CallFix p m c cX1_countPresent 1 s [.ref (q 23)].toArray (fz_ws yX1_countPresent cX1_countPresent 1 (some .int)) RX1 := ⟨hx, hb, hml, hown, hts⟩
  have hl : lv_has ls 1 [(0, .ref (q 23))] := hl
  refine lv_aload_n hx hb dX1_countPresent_0 rfl (lv_at hl 0 rfl) ?_
  refine va_get (D := D) (ci := 5) (v := .int (v 7)) (C := RX1) (T := TX1) (N := 3) hx hb hts (fun w9 h9 => fz_m (fin_X1 w9 h9)) hown hK hP 23 rfl rfl 0 (by decide) (hts _ (fz_m fm_8)) (fun _ h9 => h9) rfl dX1_countPresent_1 ?_
  refine fz_I (y := 0) g_v_7 ?_
  refine lv_aload_n hx hb dX1_countPresent_4 rfl (lv_at hl 0 rfl) ?_
  refine lv_iconst (v := (-1)) hx hb dX1_countPresent_5 (by decide) ?_
  refine fz_cVi (As := [.int (-1)]) (rest := [.int 0]) S0 (c_countOf l A D k q f pa v (-1) g_v_7) (fz_cwV (C := RX1) 1 hts fm_69 fm_70 fm_71 fm_72 fm_32 rfl rfl ⟨by decide, by decide, by decide +kernel⟩ ⟨Nat.le_of_ble_eq_true rfl, Nat.le_of_ble_eq_true rfl⟩) (va_recv hK hP (ci := 5) (q0 := 23) rfl rfl) (fun _ h9 => h9) (fun a9 h9 => hA a9 (Nat.le_trans hS.1 h9)) hG hS hP hK hD rfl hl.1 rfl (Nat.le_of_ble_eq_true rfl) dX1_countPresent_6 ⟨Nat.le_of_ble_eq_true rfl, Nat.le_of_ble_eq_true rfl⟩ (fun r_1 u_1 H locs hw hz1 hk1 hP hS => ?_)
  have hP : va_P D vwCl (fz_WC k q f pa v) H := hP
  obtain rfl : r_1 = 0 := hw
  refine lv_isub hx hb dX1_countPresent_9 ?_
  refine fz_I (y := 0) (by decide) ?_
  exact fz_iret hx hb hr rfl hlocks hS dX1_countPresent_10 () rfl hP (Nat.le_of_ble_eq_true rfl) (Nat.le_of_ble_eq_true rfl)

set_option maxHeartbeats 4000000 in
set_option maxRecDepth 100000 in
theorem c_lenA (l : Launch) (A : Nat → Prop) (D : va_G) (k : Nat → ClassId) (q : Nat → Nat) (f : Nat → Nat → Int32) (pa : Nat → Option Nat) (v : Nat → Int32) (g_v_17 : v 17 = 0)  :
    Met l yJ5_length_8abf5 (fz_ws yJ5_length_8abf5 cJ5_length_8abf5 1 (some .int)) { frames := 0, cells := 0, slots := 0, locals := 0 } (va_Pc [.ref (q 35)] (fz_PC A D (fz_tys k) (fz_WC k q f pa v))) (fz_QI D A (fun (_ : Unit) => fz_WC k q f pa v) (fun (r : Int32) (_ : Unit) => r = 0)) 0 0 A := by
  refine fz_of (by decide +kernel) (Nat.le_of_ble_eq_true rfl) ?_
  intro p e s m below meth c hx hb hr hml hown hlocks hts hin hA hP hK hD hG hS ls hl
  have hown : s.vm.findClass RJ5 = some m.cls := hown
  have S0 : CallFix p m c cJ5_length_8abf5 1 s [.ref (q 35)].toArray (fz_ws yJ5_length_8abf5 cJ5_length_8abf5 1 (some .int)) RJ5 := ⟨hx, hb, hml, hown, hts⟩
  have hl : lv_has ls 1 [(0, .ref (q 35))] := hl
  refine lv_aload_n hx hb dJ5_length_8abf5_0 rfl (lv_at hl 0 rfl) ?_
  refine va_get (D := D) (ci := 1) (v := .int (v 17)) (C := RJ4) (T := TJ4) (N := 4) hx hb hts (fun w9 h9 => fz_m (fin_J4 w9 h9)) hown hK hP 35 rfl rfl 3 (by decide) (hts _ (fz_m fm_73)) (fun _ h9 => h9) rfl dJ5_length_8abf5_1 ?_
  refine fz_I (y := 0) g_v_17 ?_
  exact fz_iret hx hb hr rfl hlocks hS dJ5_length_8abf5_4 () rfl hP (Nat.le_of_ble_eq_true rfl) (Nat.le_of_ble_eq_true rfl)

set_option maxHeartbeats 4000000 in
set_option maxRecDepth 100000 in
theorem c_len (l : Launch) (A : Nat → Prop) (D : va_G) (k : Nat → ClassId) (q : Nat → Nat) (f : Nat → Nat → Int32) (pa : Nat → Option Nat) (v : Nat → Int32) (g_v_17 : v 17 = 0)  :
    Met l yJ4_length_8abf5 (fz_ws yJ4_length_8abf5 cJ4_length_8abf5 1 (some .int)) { frames := 12, cells := 0, slots := 0, locals := 160 } (va_Pc [.ref (q 35)] (fz_PC A D (fz_tys k) (fz_WC k q f pa v))) (fz_QI D A (fun (_ : Unit) => fz_WC k q f pa v) (fun (r : Int32) (_ : Unit) => r = 0)) 0 0 A := by
  refine fz_of (by decide +kernel) (Nat.le_of_ble_eq_true rfl) ?_
  intro p e s m below meth c hx hb hr hml hown hlocks hts hin hA hP hK hD hG hS ls hl
  have hown : s.vm.findClass RJ4 = some m.cls := hown
  have S0 : CallFix p m c cJ4_length_8abf5 1 s [.ref (q 35)].toArray (fz_ws yJ4_length_8abf5 cJ4_length_8abf5 1 (some .int)) RJ4 := ⟨hx, hb, hml, hown, hts⟩
  have hl : lv_has ls 1 [(0, .ref (q 35))] := hl
  refine lv_aload_n hx hb dJ4_length_8abf5_0 rfl (lv_at hl 0 rfl) ?_
  refine fz_cUi (As := []) (rest := []) S0 (c_lenA l A D k q f pa v g_v_17) (va_cwSU 0 hts (fz_gSU fm_74 fm_75 fm_76 fm_77 fm_78 fm_79) rfl rfl rfl ⟨by decide, by decide +kernel⟩ ⟨Nat.le_of_ble_eq_true rfl, Nat.le_of_ble_eq_true rfl⟩) (fz_at hK (ci := 1) rfl) (va_recv hK hP (ci := 1) (q0 := 35) rfl rfl) (fun _ h9 => h9) (fun a9 h9 => hA a9 (Nat.le_trans hS.1 h9)) hG hS hP hK hD rfl hl.1 rfl (Nat.le_of_ble_eq_true rfl) dJ4_length_8abf5_1 ⟨Nat.le_of_ble_eq_true rfl, Nat.le_of_ble_eq_true rfl⟩ (fun r_1 u_1 H locs hw hz1 hk1 hP hS => ?_)
  have hP : va_P D vwCl (fz_WC k q f pa v) H := hP
  obtain rfl : r_1 = 0 := hw
  exact fz_iret hx hb hr rfl hlocks hS dJ4_length_8abf5_4 () rfl hP (Nat.le_of_ble_eq_true rfl) (Nat.le_of_ble_eq_true rfl)

set_option maxHeartbeats 4000000 in
set_option maxRecDepth 100000 in
theorem c_countOn (l : Launch) (A : Nat → Prop) (D : va_G) (k : Nat → ClassId) (q : Nat → Nat) (f : Nat → Nat → Int32) (pa : Nat → Option Nat) (v : Nat → Int32) (p0 : Int32) (g_v_8 : v 8 = 0)  :
    Met l yX5_countOn (fz_ws yX5_countOn cX5_countOn 4 (some .int)) { frames := 0, cells := 0, slots := 0, locals := 0 } (va_Pc [.ref (q 26), .int p0] (fz_PC A D (fz_tys k) (fz_WC k q f pa v))) (fz_QI D A (fun (_ : Unit) => fz_WC k q f pa v) (fun (r : Int32) (_ : Unit) => r = 0)) 0 0 A := by
  refine fz_of (by decide +kernel) (Nat.le_of_ble_eq_true rfl) ?_
  intro p e s m below meth c hx hb hr hml hown hlocks hts hin hA hP hK hD hG hS ls hl
  have hown : s.vm.findClass RX5 = some m.cls := hown
  have S0 : CallFix p m c cX5_countOn 4 s [.ref (q 26), .int p0].toArray (fz_ws yX5_countOn cX5_countOn 4 (some .int)) RX5 := ⟨hx, hb, hml, hown, hts⟩
  have hl : lv_has ls 4 [(0, .ref (q 26)), (1, .int p0)] := hl
  refine lv_iconst (v := 0) hx hb dX5_countOn_0 (by decide) ?_
  refine lv_istore_n (lv' := [(2, .int 0), (0, .ref (q 26)), (1, .int p0)]) hx hb dX5_countOn_1 rfl hl (by decide) rfl (fun ls hl => ?_)
  refine lv_iconst (v := 0) hx hb dX5_countOn_2 (by decide) ?_
  refine lv_istore_n (lv' := [(3, .int 0), (2, .int 0), (0, .ref (q 26)), (1, .int p0)]) hx hb dX5_countOn_3 rfl hl (by decide) rfl (fun ls hl => ?_)
  refine lv_iload_n hx hb dX5_countOn_4 rfl (lv_at hl 0 rfl) ?_
  refine lv_aload_n hx hb dX5_countOn_5 rfl (lv_at hl 2 rfl) ?_
  refine va_get (D := D) (ci := 9) (v := .int (v 8)) (C := RX5) (T := TX5) (N := 5) hx hb hts (fun w9 h9 => fz_m (fin_X5 w9 h9)) hown hK hP 26 rfl rfl 0 (by decide) (hts _ (fz_m fm_80)) (fun _ h9 => h9) rfl dX5_countOn_6 ?_
  refine fz_I (y := 0) g_v_8 ?_
  refine lv_icmp_ge (tgt := 31) hx hb dX5_countOn_9 (by decide) (fun c_1 => ?_) (fun c_1 => absurd (by decide) c_1)
  refine lv_iload_n hx hb dX5_countOn_31 rfl (lv_at hl 1 rfl) ?_
  exact fz_iret hx hb hr rfl hlocks hS dX5_countOn_32 () rfl hP (Nat.le_of_ble_eq_true rfl) (Nat.le_of_ble_eq_true rfl)

set_option maxHeartbeats 4000000 in
set_option maxRecDepth 100000 in
theorem c_bitCount0 (l : Launch) (A : Nat → Prop) (D : va_G) (k : Nat → ClassId) (q : Nat → Nat) (f : Nat → Nat → Int32) (pa : Nat → Option Nat) (v : Nat → Int32)   :
    Met l yJ6_bitCount_0f7a4 (fz_ws yJ6_bitCount_0f7a4 cJ6_bitCount_0f7a4 1 (some .int)) { frames := 0, cells := 0, slots := 0, locals := 0 } (va_Pc [.int 0] (fz_PC A D (fz_tys k) (fz_WC k q f pa v))) (fz_QI D A (fun (_ : Unit) => fz_WC k q f pa v) (fun (r : Int32) (_ : Unit) => r = 0)) 0 0 A := by
  refine fz_of (by decide +kernel) (Nat.le_of_ble_eq_true rfl) ?_
  intro p e s m below meth c hx hb hr hml hown hlocks hts hin hA hP hK hD hG hS ls hl
  have hown : s.vm.findClass RJ6 = some m.cls := hown
  have S0 : CallFix p m c cJ6_bitCount_0f7a4 1 s [.int 0].toArray (fz_ws yJ6_bitCount_0f7a4 cJ6_bitCount_0f7a4 1 (some .int)) RJ6 := ⟨hx, hb, hml, hown, hts⟩
  have hl : lv_has ls 1 [(0, .int 0)] := hl
  refine lv_iload_n hx hb dJ6_bitCount_0f7a4_0 rfl (lv_at hl 0 rfl) ?_
  refine lv_iload_n hx hb dJ6_bitCount_0f7a4_1 rfl (lv_at hl 0 rfl) ?_
  refine lv_iconst (v := 1) hx hb dJ6_bitCount_0f7a4_2 (by decide) ?_
  refine lv_iushr (v := 0) hx hb dJ6_bitCount_0f7a4_3 (by decide) ?_
  refine lv_ldcw (v := 1431655765) hx hb hown (hts _ (fz_m fm_81)) dJ6_bitCount_0f7a4_4 ?_
  refine lv_iand hx hb dJ6_bitCount_0f7a4_7 ?_
  refine fz_I (y := 0) (by decide) ?_
  refine lv_isub hx hb dJ6_bitCount_0f7a4_8 ?_
  refine fz_I (y := 0) (by decide) ?_
  refine lv_istore_n (lv' := [(0, .int 0)]) hx hb dJ6_bitCount_0f7a4_9 rfl hl (by decide) rfl (fun ls hl => ?_)
  refine lv_iload_n hx hb dJ6_bitCount_0f7a4_10 rfl (lv_at hl 0 rfl) ?_
  refine lv_ldcw (v := 858993459) hx hb hown (hts _ (fz_m fm_82)) dJ6_bitCount_0f7a4_11 ?_
  refine lv_iand hx hb dJ6_bitCount_0f7a4_14 ?_
  refine fz_I (y := 0) (by decide) ?_
  refine lv_iload_n hx hb dJ6_bitCount_0f7a4_15 rfl (lv_at hl 0 rfl) ?_
  refine lv_iconst (v := 2) hx hb dJ6_bitCount_0f7a4_16 (by decide) ?_
  refine lv_iushr (v := 0) hx hb dJ6_bitCount_0f7a4_17 (by decide) ?_
  refine lv_ldcw (v := 858993459) hx hb hown (hts _ (fz_m fm_82)) dJ6_bitCount_0f7a4_18 ?_
  refine lv_iand hx hb dJ6_bitCount_0f7a4_21 ?_
  refine fz_I (y := 0) (by decide) ?_
  refine lv_iadd hx hb dJ6_bitCount_0f7a4_22 ?_
  refine fz_I (y := 0) (by decide) ?_
  refine lv_istore_n (lv' := [(0, .int 0)]) hx hb dJ6_bitCount_0f7a4_23 rfl hl (by decide) rfl (fun ls hl => ?_)
  refine lv_iload_n hx hb dJ6_bitCount_0f7a4_24 rfl (lv_at hl 0 rfl) ?_
  refine lv_iload_n hx hb dJ6_bitCount_0f7a4_25 rfl (lv_at hl 0 rfl) ?_
  refine lv_iconst (v := 4) hx hb dJ6_bitCount_0f7a4_26 (by decide) ?_
  refine lv_iushr (v := 0) hx hb dJ6_bitCount_0f7a4_27 (by decide) ?_
  refine lv_iadd hx hb dJ6_bitCount_0f7a4_28 ?_
  refine fz_I (y := 0) (by decide) ?_
  refine lv_ldcw (v := 252645135) hx hb hown (hts _ (fz_m fm_83)) dJ6_bitCount_0f7a4_29 ?_
  refine lv_iand hx hb dJ6_bitCount_0f7a4_32 ?_
  refine fz_I (y := 0) (by decide) ?_
  refine lv_istore_n (lv' := [(0, .int 0)]) hx hb dJ6_bitCount_0f7a4_33 rfl hl (by decide) rfl (fun ls hl => ?_)
  refine lv_iload_n hx hb dJ6_bitCount_0f7a4_34 rfl (lv_at hl 0 rfl) ?_
  refine lv_iload_n hx hb dJ6_bitCount_0f7a4_35 rfl (lv_at hl 0 rfl) ?_
  refine lv_bipush (v := 8) hx hb dJ6_bitCount_0f7a4_36 (by decide) ?_
  refine lv_iushr (v := 0) hx hb dJ6_bitCount_0f7a4_38 (by decide) ?_
  refine lv_iadd hx hb dJ6_bitCount_0f7a4_39 ?_
  refine fz_I (y := 0) (by decide) ?_
  refine lv_istore_n (lv' := [(0, .int 0)]) hx hb dJ6_bitCount_0f7a4_40 rfl hl (by decide) rfl (fun ls hl => ?_)
  refine lv_iload_n hx hb dJ6_bitCount_0f7a4_41 rfl (lv_at hl 0 rfl) ?_
  refine lv_iload_n hx hb dJ6_bitCount_0f7a4_42 rfl (lv_at hl 0 rfl) ?_
  refine lv_bipush (v := 16) hx hb dJ6_bitCount_0f7a4_43 (by decide) ?_
  refine lv_iushr (v := 0) hx hb dJ6_bitCount_0f7a4_45 (by decide) ?_
  refine lv_iadd hx hb dJ6_bitCount_0f7a4_46 ?_
  refine fz_I (y := 0) (by decide) ?_
  refine lv_istore_n (lv' := [(0, .int 0)]) hx hb dJ6_bitCount_0f7a4_47 rfl hl (by decide) rfl (fun ls hl => ?_)
  refine lv_iload_n hx hb dJ6_bitCount_0f7a4_48 rfl (lv_at hl 0 rfl) ?_
  refine lv_bipush (v := 63) hx hb dJ6_bitCount_0f7a4_49 (by decide) ?_
  refine lv_iand hx hb dJ6_bitCount_0f7a4_51 ?_
  refine fz_I (y := 0) (by decide) ?_
  exact fz_iret hx hb hr rfl hlocks hS dJ6_bitCount_0f7a4_52 () rfl hP (Nat.le_of_ble_eq_true rfl) (Nat.le_of_ble_eq_true rfl)

set_option maxHeartbeats 4000000 in
set_option maxRecDepth 100000 in
theorem c_countReaders (l : Launch) (A : Nat → Prop) (D : va_G) (k : Nat → ClassId) (q : Nat → Nat) (f : Nat → Nat → Int32) (pa : Nat → Option Nat) (v : Nat → Int32) (p0 : Int32) (g_v_8 : v 8 = 0)  :
    Met l yX5_countReaders (fz_ws yX5_countReaders cX5_countReaders 4 (some .int)) { frames := 12, cells := 0, slots := 0, locals := 160 } (va_Pc [.ref (q 26), .int p0] (fz_PC A D (fz_tys k) (fz_WC k q f pa v))) (fz_QI D A (fun (_ : Unit) => fz_WC k q f pa v) (fun (r : Int32) (_ : Unit) => r = 0)) 0 0 A := by
  refine fz_of (by decide +kernel) (Nat.le_of_ble_eq_true rfl) ?_
  intro p e s m below meth c hx hb hr hml hown hlocks hts hin hA hP hK hD hG hS ls hl
  have hown : s.vm.findClass RX5 = some m.cls := hown
  have S0 : CallFix p m c cX5_countReaders 4 s [.ref (q 26), .int p0].toArray (fz_ws yX5_countReaders cX5_countReaders 4 (some .int)) RX5 := ⟨hx, hb, hml, hown, hts⟩
  have hl : lv_has ls 4 [(0, .ref (q 26)), (1, .int p0)] := hl
  refine lv_iconst (v := 0) hx hb dX5_countReaders_0 (by decide) ?_
  refine lv_istore_n (lv' := [(2, .int 0), (0, .ref (q 26)), (1, .int p0)]) hx hb dX5_countReaders_1 rfl hl (by decide) rfl (fun ls hl => ?_)
  refine lv_iconst (v := 0) hx hb dX5_countReaders_2 (by decide) ?_
  refine lv_istore_n (lv' := [(3, .int 0), (2, .int 0), (0, .ref (q 26)), (1, .int p0)]) hx hb dX5_countReaders_3 rfl hl (by decide) rfl (fun ls hl => ?_)
  refine lv_iload_n hx hb dX5_countReaders_4 rfl (lv_at hl 0 rfl) ?_
  refine lv_aload_n hx hb dX5_countReaders_5 rfl (lv_at hl 2 rfl) ?_
  refine va_get (D := D) (ci := 9) (v := .int (v 8)) (C := RX5) (T := TX5) (N := 5) hx hb hts (fun w9 h9 => fz_m (fin_X5 w9 h9)) hown hK hP 26 rfl rfl 0 (by decide) (hts _ (fz_m fm_80)) (fun _ h9 => h9) rfl dX5_countReaders_6 ?_
  refine fz_I (y := 0) g_v_8 ?_
  refine lv_icmp_ge (tgt := 39) hx hb dX5_countReaders_9 (by decide) (fun c_1 => ?_) (fun c_1 => absurd (by decide) c_1)
  refine lv_iload_n hx hb dX5_countReaders_39 rfl (lv_at hl 1 rfl) ?_
  refine fz_cSi (As := [.int 0]) (rest := []) S0 (c_bitCount0 l A D k q f pa v ) (fz_cwS 1 hts fm_84 fm_85 fm_86 fm_87 rfl rfl ⟨by decide, by decide, by decide +kernel⟩ ⟨Nat.le_of_ble_eq_true rfl, Nat.le_of_ble_eq_true rfl⟩) (fun _ h9 => h9) (fun a9 h9 => hA a9 (Nat.le_trans hS.1 h9)) hG hS hP hK hD rfl hl.1 rfl (Nat.le_of_ble_eq_true rfl) dX5_countReaders_40 ⟨Nat.le_of_ble_eq_true rfl, Nat.le_of_ble_eq_true rfl⟩ (fun r_2 u_2 H locs hw hz1 hk1 hP hS => ?_)
  have hP : va_P D vwCl (fz_WC k q f pa v) H := hP
  obtain rfl : r_2 = 0 := hw
  exact fz_iret hx hb hr rfl hlocks hS dX5_countReaders_43 () rfl hP (Nat.le_of_ble_eq_true rfl) (Nat.le_of_ble_eq_true rfl)

set_option maxHeartbeats 4000000 in
set_option maxRecDepth 100000 in
theorem c_countShowing (l : Launch) (A : Nat → Prop) (D : va_G) (k : Nat → ClassId) (q : Nat → Nat) (f : Nat → Nat → Int32) (pa : Nat → Option Nat) (v : Nat → Int32) (p0 : Int32) (g_v_8 : v 8 = 0)  :
    Met l yX5_countShowing (fz_ws yX5_countShowing cX5_countShowing 4 (some .int)) { frames := 0, cells := 0, slots := 0, locals := 0 } (va_Pc [.ref (q 26), .int p0] (fz_PC A D (fz_tys k) (fz_WC k q f pa v))) (fz_QI D A (fun (_ : Unit) => fz_WC k q f pa v) (fun (r : Int32) (_ : Unit) => r = 0)) 0 0 A := by
  refine fz_of (by decide +kernel) (Nat.le_of_ble_eq_true rfl) ?_
  intro p e s m below meth c hx hb hr hml hown hlocks hts hin hA hP hK hD hG hS ls hl
  have hown : s.vm.findClass RX5 = some m.cls := hown
  have S0 : CallFix p m c cX5_countShowing 4 s [.ref (q 26), .int p0].toArray (fz_ws yX5_countShowing cX5_countShowing 4 (some .int)) RX5 := ⟨hx, hb, hml, hown, hts⟩
  have hl : lv_has ls 4 [(0, .ref (q 26)), (1, .int p0)] := hl
  refine lv_iconst (v := 0) hx hb dX5_countShowing_0 (by decide) ?_
  refine lv_istore_n (lv' := [(2, .int 0), (0, .ref (q 26)), (1, .int p0)]) hx hb dX5_countShowing_1 rfl hl (by decide) rfl (fun ls hl => ?_)
  refine lv_iconst (v := 0) hx hb dX5_countShowing_2 (by decide) ?_
  refine lv_istore_n (lv' := [(3, .int 0), (2, .int 0), (0, .ref (q 26)), (1, .int p0)]) hx hb dX5_countShowing_3 rfl hl (by decide) rfl (fun ls hl => ?_)
  refine lv_iload_n hx hb dX5_countShowing_4 rfl (lv_at hl 0 rfl) ?_
  refine lv_aload_n hx hb dX5_countShowing_5 rfl (lv_at hl 2 rfl) ?_
  refine va_get (D := D) (ci := 9) (v := .int (v 8)) (C := RX5) (T := TX5) (N := 5) hx hb hts (fun w9 h9 => fz_m (fin_X5 w9 h9)) hown hK hP 26 rfl rfl 0 (by decide) (hts _ (fz_m fm_80)) (fun _ h9 => h9) rfl dX5_countShowing_6 ?_
  refine fz_I (y := 0) g_v_8 ?_
  refine lv_icmp_ge (tgt := 31) hx hb dX5_countShowing_9 (by decide) (fun c_1 => ?_) (fun c_1 => absurd (by decide) c_1)
  refine lv_iload_n hx hb dX5_countShowing_31 rfl (lv_at hl 1 rfl) ?_
  exact fz_iret hx hb hr rfl hlocks hS dX5_countShowing_32 () rfl hP (Nat.le_of_ble_eq_true rfl) (Nat.le_of_ble_eq_true rfl)

set_option maxHeartbeats 4000000 in
set_option maxRecDepth 100000 in
theorem c_countAllShown (l : Launch) (A : Nat → Prop) (D : va_G) (k : Nat → ClassId) (q : Nat → Nat) (f : Nat → Nat → Int32) (pa : Nat → Option Nat) (v : Nat → Int32) (g_v_8 : v 8 = 0)  :
    Met l yX7_countAllShownPages (fz_ws yX7_countAllShownPages cX7_countAllShownPages 3 (some .int)) { frames := 0, cells := 0, slots := 0, locals := 0 } (va_Pc [.ref (q 0)] (fz_PC A D (fz_tys k) (fz_WC k q f pa v))) (fz_QI D A (fun (_ : Unit) => fz_WC k q f pa v) (fun (r : Int32) (_ : Unit) => r = 0)) 0 0 A := by
  refine fz_of (by decide +kernel) (Nat.le_of_ble_eq_true rfl) ?_
  intro p e s m below meth c hx hb hr hml hown hlocks hts hin hA hP hK hD hG hS ls hl
  have hown : s.vm.findClass RX7 = some m.cls := hown
  have S0 : CallFix p m c cX7_countAllShownPages 3 s [.ref (q 0)].toArray (fz_ws yX7_countAllShownPages cX7_countAllShownPages 3 (some .int)) RX7 := ⟨hx, hb, hml, hown, hts⟩
  have hl : lv_has ls 3 [(0, .ref (q 0))] := hl
  refine lv_iconst (v := 0) hx hb dX7_countAllShownPages_0 (by decide) ?_
  refine lv_istore_n (lv' := [(1, .int 0), (0, .ref (q 0))]) hx hb dX7_countAllShownPages_1 rfl hl (by decide) rfl (fun ls hl => ?_)
  refine lv_iconst (v := 0) hx hb dX7_countAllShownPages_2 (by decide) ?_
  refine lv_istore_n (lv' := [(2, .int 0), (1, .int 0), (0, .ref (q 0))]) hx hb dX7_countAllShownPages_3 rfl hl (by decide) rfl (fun ls hl => ?_)
  refine lv_iload_n hx hb dX7_countAllShownPages_4 rfl (lv_at hl 0 rfl) ?_
  refine lv_aload_n hx hb dX7_countAllShownPages_5 rfl (lv_at hl 2 rfl) ?_
  refine va_get (D := D) (ci := 11) (v := .ref (q 26)) (C := RX7) (T := TX7) (N := 6) hx hb hts (fun w9 h9 => fz_m (fin_X7 w9 h9)) hown hK hP 0 rfl rfl 4 (by decide) (hts _ (fz_m fm_88)) (fun _ h9 => h9) rfl dX7_countAllShownPages_6 ?_
  refine va_get (D := D) (ci := 9) (v := .int (v 8)) (C := RX5) (T := TX5) (N := 5) hx hb hts (fun w9 h9 => fz_m (fin_X5 w9 h9)) hown hK hP 26 rfl rfl 0 (by decide) (hts _ (fz_m fm_89)) (fun _ h9 => h9) rfl dX7_countAllShownPages_9 ?_
  refine fz_I (y := 0) g_v_8 ?_
  refine lv_icmp_ge (tgt := 29) hx hb dX7_countAllShownPages_12 (by decide) (fun c_1 => ?_) (fun c_1 => absurd (by decide) c_1)
  refine lv_iload_n hx hb dX7_countAllShownPages_29 rfl (lv_at hl 1 rfl) ?_
  exact fz_iret hx hb hr rfl hlocks hS dX7_countAllShownPages_30 () rfl hP (Nat.le_of_ble_eq_true rfl) (Nat.le_of_ble_eq_true rfl)

set_option maxHeartbeats 4000000 in
set_option maxRecDepth 100000 in
theorem c_countOpenUnits (l : Launch) (A : Nat → Prop) (D : va_G) (k : Nat → ClassId) (q : Nat → Nat) (f : Nat → Nat → Int32) (pa : Nat → Option Nat) (v : Nat → Int32) (p0 : Int32) (g_v_2 : v 2 = 1) (g_f_2_0 : f 2 0 = 0) (g_f_7_0 : f 7 0 = 0)  :
    Met l yX7_countOpenUnits (fz_ws yX7_countOpenUnits cX7_countOpenUnits 5 (some .int)) { frames := 0, cells := 0, slots := 0, locals := 0 } (va_Pc [.ref (q 0), .int p0] (fz_PC A D (fz_tys k) (fz_WC k q f pa v))) (fz_QI D A (fun (_ : Unit) => fz_WC k q f pa v) (fun (r : Int32) (_ : Unit) => r = 0)) 0 0 A := by
  refine fz_of (by decide +kernel) (Nat.le_of_ble_eq_true rfl) ?_
  intro p e s m below meth c hx hb hr hml hown hlocks hts hin hA hP hK hD hG hS ls hl
  have hown : s.vm.findClass RX7 = some m.cls := hown
  have S0 : CallFix p m c cX7_countOpenUnits 5 s [.ref (q 0), .int p0].toArray (fz_ws yX7_countOpenUnits cX7_countOpenUnits 5 (some .int)) RX7 := ⟨hx, hb, hml, hown, hts⟩
  have hl : lv_has ls 5 [(0, .ref (q 0)), (1, .int p0)] := hl
  refine lv_iconst (v := 0) hx hb dX7_countOpenUnits_0 (by decide) ?_
  refine lv_istore_n (lv' := [(2, .int 0), (0, .ref (q 0)), (1, .int p0)]) hx hb dX7_countOpenUnits_1 rfl hl (by decide) rfl (fun ls hl => ?_)
  refine lv_iconst (v := 0) hx hb dX7_countOpenUnits_2 (by decide) ?_
  refine lv_istore_n (lv' := [(3, .int 0), (2, .int 0), (0, .ref (q 0)), (1, .int p0)]) hx hb dX7_countOpenUnits_3 rfl hl (by decide) rfl (fun ls hl => ?_)
  refine lv_iload_n hx hb dX7_countOpenUnits_4 rfl (lv_at hl 0 rfl) ?_
  refine lv_aload_n hx hb dX7_countOpenUnits_5 rfl (lv_at hl 2 rfl) ?_
  refine va_get (D := D) (ci := 11) (v := .ref (q 1)) (C := RX7) (T := TX7) (N := 6) hx hb hts (fun w9 h9 => fz_m (fin_X7 w9 h9)) hown hK hP 0 rfl rfl 0 (by decide) (hts _ (fz_m fm_90)) (fun _ h9 => h9) rfl dX7_countOpenUnits_6 ?_
  refine va_get (D := D) (ci := 12) (v := .int (v 2)) (C := RX8) (T := TX8) (N := 10) hx hb hts (fun w9 h9 => fz_m (fin_X8 w9 h9)) hown hK hP 1 rfl rfl 1 (by decide) (hts _ (fz_m fm_91)) (fun _ h9 => h9) rfl dX7_countOpenUnits_9 ?_
  refine fz_I (y := 1) g_v_2 ?_
  refine lv_icmp_ge (tgt := 59) hx hb dX7_countOpenUnits_12 (by decide) (fun c_1 => absurd c_1 (by decide)) (fun c_1 => ?_)
  refine lv_aload_n hx hb dX7_countOpenUnits_15 rfl (lv_at hl 2 rfl) ?_
  refine va_get (D := D) (ci := 11) (v := .ref (q 1)) (C := RX7) (T := TX7) (N := 6) hx hb hts (fun w9 h9 => fz_m (fin_X7 w9 h9)) hown hK hP 0 rfl rfl 0 (by decide) (hts _ (fz_m fm_90)) (fun _ h9 => h9) rfl dX7_countOpenUnits_16 ?_
  refine va_get (D := D) (ci := 12) (v := .ref (q 2)) (C := RX8) (T := TX8) (N := 10) hx hb hts (fun w9 h9 => fz_m (fin_X8 w9 h9)) hown hK hP 1 rfl rfl 2 (by decide) (hts _ (fz_m fm_92)) (fun _ h9 => h9) rfl dX7_countOpenUnits_19 ?_
  refine lv_iload_n hx hb dX7_countOpenUnits_22 rfl (lv_at hl 0 rfl) ?_
  refine va_iald hx hb hK hP 2 0 rfl rfl (fz_vin (by decide)) dX7_countOpenUnits_23 ?_
  refine fz_I (y := 0) g_f_2_0 ?_
  refine lv_istore (lv' := [(4, .int 0), (3, .int 0), (2, .int 0), (0, .ref (q 0)), (1, .int p0)]) hx hb dX7_countOpenUnits_24 hl (by decide) rfl (fun ls hl => ?_)
  refine lv_aload_n hx hb dX7_countOpenUnits_26 rfl (lv_at hl 3 rfl) ?_
  refine va_get (D := D) (ci := 11) (v := .ref (q 1)) (C := RX7) (T := TX7) (N := 6) hx hb hts (fun w9 h9 => fz_m (fin_X7 w9 h9)) hown hK hP 0 rfl rfl 0 (by decide) (hts _ (fz_m fm_90)) (fun _ h9 => h9) rfl dX7_countOpenUnits_27 ?_
  refine va_get (D := D) (ci := 12) (v := .ref (q 7)) (C := RX8) (T := TX8) (N := 10) hx hb hts (fun w9 h9 => fz_m (fin_X8 w9 h9)) hown hK hP 1 rfl rfl 7 (by decide) (hts _ (fz_m fm_93)) (fun _ h9 => h9) rfl dX7_countOpenUnits_30 ?_
  refine lv_iload hx hb dX7_countOpenUnits_33 (lv_at hl 0 rfl) ?_
  refine va_iald hx hb hK hP 7 0 rfl rfl (fz_vin (by decide)) dX7_countOpenUnits_35 ?_
  refine fz_I (y := 0) g_f_7_0 ?_
  refine lv_if_le (tgt := 53) hx hb dX7_countOpenUnits_36 (by decide) (fun c_2 => ?_) (fun c_2 => absurd (by decide) c_2)
  refine lv_iinc (v := 1) (lv' := [(3, .int 1), (4, .int 0), (2, .int 0), (0, .ref (q 0)), (1, .int p0)]) hx hb dX7_countOpenUnits_53 hl (k := 1) rfl (by decide) (by decide) rfl (fun ls hl => ?_)
  refine lv_goto (tgt := 4) hx hb dX7_countOpenUnits_56 (by decide) ?_
  refine lv_iload_n hx hb dX7_countOpenUnits_4 rfl (lv_at hl 0 rfl) ?_
  refine lv_aload_n hx hb dX7_countOpenUnits_5 rfl (lv_at hl 3 rfl) ?_
  refine va_get (D := D) (ci := 11) (v := .ref (q 1)) (C := RX7) (T := TX7) (N := 6) hx hb hts (fun w9 h9 => fz_m (fin_X7 w9 h9)) hown hK hP 0 rfl rfl 0 (by decide) (hts _ (fz_m fm_90)) (fun _ h9 => h9) rfl dX7_countOpenUnits_6 ?_
  refine va_get (D := D) (ci := 12) (v := .int (v 2)) (C := RX8) (T := TX8) (N := 10) hx hb hts (fun w9 h9 => fz_m (fin_X8 w9 h9)) hown hK hP 1 rfl rfl 1 (by decide) (hts _ (fz_m fm_91)) (fun _ h9 => h9) rfl dX7_countOpenUnits_9 ?_
  refine fz_I (y := 1) g_v_2 ?_
  refine lv_icmp_ge (tgt := 59) hx hb dX7_countOpenUnits_12 (by decide) (fun c_3 => ?_) (fun c_3 => absurd (by decide) c_3)
  refine lv_iload_n hx hb dX7_countOpenUnits_59 rfl (lv_at hl 2 rfl) ?_
  exact fz_iret hx hb hr rfl hlocks hS dX7_countOpenUnits_60 () rfl hP (Nat.le_of_ble_eq_true rfl) (Nat.le_of_ble_eq_true rfl)

set_option maxHeartbeats 4000000 in
set_option maxRecDepth 100000 in
theorem c_countOpenPages (l : Launch) (A : Nat → Prop) (D : va_G) (k : Nat → ClassId) (q : Nat → Nat) (f : Nat → Nat → Int32) (pa : Nat → Option Nat) (v : Nat → Int32) (p0 : Int32) (g_v_2 : v 2 = 1) (g_f_2_0 : f 2 0 = 0) (g_f_7_0 : f 7 0 = 0)  :
    Met l yX7_countOpenPages (fz_ws yX7_countOpenPages cX7_countOpenPages 4 (some .int)) { frames := 12, cells := 0, slots := 0, locals := 160 } (va_Pc [.ref (q 0), .int p0] (fz_PC A D (fz_tys k) (fz_WC k q f pa v))) (fz_QI D A (fun (_ : Unit) => fz_WC k q f pa v) (fun (r : Int32) (_ : Unit) => r = 0)) 0 0 A := by
  refine fz_of (by decide +kernel) (Nat.le_of_ble_eq_true rfl) ?_
  intro p e s m below meth c hx hb hr hml hown hlocks hts hin hA hP hK hD hG hS ls hl
  have hown : s.vm.findClass RX7 = some m.cls := hown
  have S0 : CallFix p m c cX7_countOpenPages 4 s [.ref (q 0), .int p0].toArray (fz_ws yX7_countOpenPages cX7_countOpenPages 4 (some .int)) RX7 := ⟨hx, hb, hml, hown, hts⟩
  have hl : lv_has ls 4 [(0, .ref (q 0)), (1, .int p0)] := hl
  refine lv_iconst (v := 0) hx hb dX7_countOpenPages_0 (by decide) ?_
  refine lv_istore_n (lv' := [(2, .int 0), (0, .ref (q 0)), (1, .int p0)]) hx hb dX7_countOpenPages_1 rfl hl (by decide) rfl (fun ls hl => ?_)
  refine lv_iconst (v := 0) hx hb dX7_countOpenPages_2 (by decide) ?_
  refine lv_istore_n (lv' := [(3, .int 0), (2, .int 0), (0, .ref (q 0)), (1, .int p0)]) hx hb dX7_countOpenPages_3 rfl hl (by decide) rfl (fun ls hl => ?_)
  refine lv_iload_n hx hb dX7_countOpenPages_4 rfl (lv_at hl 0 rfl) ?_
  refine lv_aload_n hx hb dX7_countOpenPages_5 rfl (lv_at hl 2 rfl) ?_
  refine va_get (D := D) (ci := 11) (v := .ref (q 1)) (C := RX7) (T := TX7) (N := 6) hx hb hts (fun w9 h9 => fz_m (fin_X7 w9 h9)) hown hK hP 0 rfl rfl 0 (by decide) (hts _ (fz_m fm_90)) (fun _ h9 => h9) rfl dX7_countOpenPages_6 ?_
  refine va_get (D := D) (ci := 12) (v := .int (v 2)) (C := RX8) (T := TX8) (N := 10) hx hb hts (fun w9 h9 => fz_m (fin_X8 w9 h9)) hown hK hP 1 rfl rfl 1 (by decide) (hts _ (fz_m fm_91)) (fun _ h9 => h9) rfl dX7_countOpenPages_9 ?_
  refine fz_I (y := 1) g_v_2 ?_
  refine lv_icmp_ge (tgt := 48) hx hb dX7_countOpenPages_12 (by decide) (fun c_1 => absurd c_1 (by decide)) (fun c_1 => ?_)
  refine lv_iload_n hx hb dX7_countOpenPages_15 rfl (lv_at hl 1 rfl) ?_
  refine lv_aload_n hx hb dX7_countOpenPages_16 rfl (lv_at hl 2 rfl) ?_
  refine va_get (D := D) (ci := 11) (v := .ref (q 10)) (C := RX7) (T := TX7) (N := 6) hx hb hts (fun w9 h9 => fz_m (fin_X7 w9 h9)) hown hK hP 0 rfl rfl 1 (by decide) (hts _ (fz_m fm_94)) (fun _ h9 => h9) rfl dX7_countOpenPages_17 ?_
  refine lv_aload_n hx hb dX7_countOpenPages_20 rfl (lv_at hl 2 rfl) ?_
  refine va_get (D := D) (ci := 11) (v := .ref (q 1)) (C := RX7) (T := TX7) (N := 6) hx hb hts (fun w9 h9 => fz_m (fin_X7 w9 h9)) hown hK hP 0 rfl rfl 0 (by decide) (hts _ (fz_m fm_90)) (fun _ h9 => h9) rfl dX7_countOpenPages_21 ?_
  refine lv_aload_n hx hb dX7_countOpenPages_24 rfl (lv_at hl 2 rfl) ?_
  refine va_get (D := D) (ci := 11) (v := .ref (q 1)) (C := RX7) (T := TX7) (N := 6) hx hb hts (fun w9 h9 => fz_m (fin_X7 w9 h9)) hown hK hP 0 rfl rfl 0 (by decide) (hts _ (fz_m fm_90)) (fun _ h9 => h9) rfl dX7_countOpenPages_25 ?_
  refine va_get (D := D) (ci := 12) (v := .ref (q 2)) (C := RX8) (T := TX8) (N := 10) hx hb hts (fun w9 h9 => fz_m (fin_X8 w9 h9)) hown hK hP 1 rfl rfl 2 (by decide) (hts _ (fz_m fm_92)) (fun _ h9 => h9) rfl dX7_countOpenPages_28 ?_
  refine lv_iload_n hx hb dX7_countOpenPages_31 rfl (lv_at hl 0 rfl) ?_
  refine va_iald hx hb hK hP 2 0 rfl rfl (fz_vin (by decide)) dX7_countOpenPages_32 ?_
  refine fz_I (y := 0) g_f_2_0 ?_
  refine lv_iload_n hx hb dX7_countOpenPages_33 rfl (lv_at hl 3 rfl) ?_
  refine fz_cVi (As := [.ref (q 1), .int 0, .int p0]) (rest := [.int 0]) S0 (c_openSet l A D k q f pa v p0 g_f_7_0) (fz_cwV (C := RX6) 3 hts fm_95 fm_96 fm_97 fm_98 fm_54 rfl rfl ⟨by decide, by decide, by decide +kernel⟩ ⟨Nat.le_of_ble_eq_true rfl, Nat.le_of_ble_eq_true rfl⟩) (va_recv hK hP (ci := 10) (q0 := 10) rfl rfl) (fun _ h9 => h9) (fun a9 h9 => hA a9 (Nat.le_trans hS.1 h9)) hG hS hP hK hD rfl hl.1 rfl (Nat.le_of_ble_eq_true rfl) dX7_countOpenPages_34 ⟨Nat.le_of_ble_eq_true rfl, Nat.le_of_ble_eq_true rfl⟩ (fun r_2 u_2 H locs hw hz1 hk1 hP hS => ?_)
  have hP : va_P D vwCl (fz_WC k q f pa v) H := hP
  obtain rfl : r_2 = 0 := hw
  refine fz_cSi (As := [.int 0]) (rest := [.int 0]) S0 (c_bitCount0 l A D k q f pa v ) (fz_cwS 1 hts fm_84 fm_99 fm_86 fm_87 rfl rfl ⟨by decide, by decide, by decide +kernel⟩ ⟨Nat.le_of_ble_eq_true rfl, Nat.le_of_ble_eq_true rfl⟩) (fun _ h9 => h9) (fun a9 h9 => hA a9 (Nat.le_trans hS.1 h9)) hG hS hP hK hD rfl hl.1 rfl (Nat.le_of_ble_eq_true rfl) dX7_countOpenPages_37 ⟨Nat.le_of_ble_eq_true rfl, Nat.le_of_ble_eq_true rfl⟩ (fun r_3 u_3 H locs hw hz1 hk1 hP hS => ?_)
  have hP : va_P D vwCl (fz_WC k q f pa v) H := hP
  obtain rfl : r_3 = 0 := hw
  refine lv_iadd hx hb dX7_countOpenPages_40 ?_
  refine fz_I (y := 0) (by decide) ?_
  refine lv_istore_n (lv' := [(2, .int 0), (3, .int 0), (0, .ref (q 0)), (1, .int p0)]) hx hb dX7_countOpenPages_41 rfl hl (by decide) rfl (fun ls hl => ?_)
  refine lv_iinc (v := 1) (lv' := [(3, .int 1), (2, .int 0), (0, .ref (q 0)), (1, .int p0)]) hx hb dX7_countOpenPages_42 hl (k := 1) rfl (by decide) (by decide) rfl (fun ls hl => ?_)
  refine lv_goto (tgt := 4) hx hb dX7_countOpenPages_45 (by decide) ?_
  refine lv_iload_n hx hb dX7_countOpenPages_4 rfl (lv_at hl 0 rfl) ?_
  refine lv_aload_n hx hb dX7_countOpenPages_5 rfl (lv_at hl 2 rfl) ?_
  refine va_get (D := D) (ci := 11) (v := .ref (q 1)) (C := RX7) (T := TX7) (N := 6) hx hb hts (fun w9 h9 => fz_m (fin_X7 w9 h9)) hown hK hP 0 rfl rfl 0 (by decide) (hts _ (fz_m fm_90)) (fun _ h9 => h9) rfl dX7_countOpenPages_6 ?_
  refine va_get (D := D) (ci := 12) (v := .int (v 2)) (C := RX8) (T := TX8) (N := 10) hx hb hts (fun w9 h9 => fz_m (fin_X8 w9 h9)) hown hK hP 1 rfl rfl 1 (by decide) (hts _ (fz_m fm_91)) (fun _ h9 => h9) rfl dX7_countOpenPages_9 ?_
  refine fz_I (y := 1) g_v_2 ?_
  refine lv_icmp_ge (tgt := 48) hx hb dX7_countOpenPages_12 (by decide) (fun c_4 => ?_) (fun c_4 => absurd (by decide) c_4)
  refine lv_iload_n hx hb dX7_countOpenPages_48 rfl (lv_at hl 1 rfl) ?_
  exact fz_iret hx hb hr rfl hlocks hS dX7_countOpenPages_49 () rfl hP (Nat.le_of_ble_eq_true rfl) (Nat.le_of_ble_eq_true rfl)

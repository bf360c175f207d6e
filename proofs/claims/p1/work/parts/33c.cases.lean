set_option maxHeartbeats 8000000 in
set_option maxRecDepth 100000 in
theorem lw_case19 {p : Program} {l : Launch} {e : Env} {s : State} {m : MethodId} {below : List Frame} {meth : Method} {c : Code} {D : va_G} {b L : Nat} {xs : Nat → Int32} (hl0 : l.stackTraces = false) (hL : L = 6) (C0 : lw_At p s m meth c b L xs) (hG : fz_GS (fun q : Nat => s.heap.size ≤ q) s) (k : Nat → ClassId) (hK : va_K D vwCl (fz_tys k) s) (q q2 : Nat → Nat) (f f2 : Nat → Nat → Int32) (pa pa2 : Nat → Option Nat) (v v2 : Nat → Int32) (o o2 : Nat) (g : Nat → Int64) (g2 : Nat → UInt64) (hF : fz_LF q2 f pa v f2 pa2 v2) (H : Heap) (locs : List Loc) (hP : va_P D vwCl (fz_WC k q f pa v ++ ([(o, .inl (k 5, 1, .inr (.inl g)))] ++ ([(o2, .inl (k 6, 1, .inr (.inr (.inr (.inl g2)))))] ++ (fz_WM k q2 f2 pa2 v2)))) H) (hD : va_D (fun q : Nat => s.heap.size ≤ q) (fz_WC k q f pa v ++ ([(o, .inl (k 5, 1, .inr (.inl g)))] ++ ([(o2, .inl (k 6, 1, .inr (.inr (.inr (.inl g2)))))] ++ (fz_WM k q2 f2 pa2 v2))))) (hS : va_S (fun q : Nat => s.heap.size ≤ q) s.heap H locs) (ls : Array Slot) (hl : lv_has ls 9 [(5, .int 0), (4, .ref o2), (3, .ref o), (2, .ref (q2 0)), (1, .ref (q 31)), (0, .ref b)]) :
    W p l e room_1 s m #[Value.ref b] below meth c H locs 2000 400000 (lw_Z below #[Value.ref b] s) (F0 m 1520 ls []) := by
  obtain ⟨g_v_0, g_v_1, g_v_2, g_v_3, g_v_4, g_v_5, g_v_6, g_v_7, g_v_8, g_v_9, g_v_10, g_v_11, g_v_12, g_v_13, g_v_14, g_v_15, g_v_17, g_f_2_0, g_f_4_0, g_f_5_0, g_f_6_0, g_f_7_0, g_f_8_0, g_f_9_0, g_f_11_0, g_f_18_0, g_f_19_0, g_pa_0, g_pa_1, g_pa_8, n_v_0, n_v_5, n_v_6, n_v_7, n_v_8, n_v_9, n_v_10, n_v_11, n_v_12, n_v_13, n_v_15, n_v_16, n_v_17, n_v_18, n_v_19, n_v_21, n_f_1_0, n_f_1_1, n_f_1_2, n_f_1_3, n_f_1_4, n_f_1_5, n_f_1_6, n_f_1_7, n_f_1_8, n_f_1_9, n_f_1_10, n_f_1_11, n_f_1_12, n_f_1_13, n_f_1_15, n_f_1_16, n_f_1_17, n_pb_0⟩ := hF
  obtain ⟨hx, hb, hr, hml, hown, hts, hX, hbl, hlocks, hgv⟩ := id C0
  subst hL
  have hL : (6 : Nat) = 6 := rfl
  have hA : ∀ q : Nat, s.heap.size ≤ q → (fun q : Nat => s.heap.size ≤ q) q := fun _ h => h
  have hbA : ¬ (fun q : Nat => s.heap.size ≤ q) b := Nat.not_le.mpr hbl
  have hts9 := fz_hts9 hts
  have hown : s.vm.findClass RL = some m.cls := hown
  have S0 : CallFix p m c code 9 s #[Value.ref b] (Cond.initialized RL :: fz_WA) RL := ⟨hx, hb, hml, hown, hts9⟩
  obtain ⟨x1, ex1⟩ : ∃ z, z = xs 1 := ⟨_, rfl⟩
  obtain ⟨x2, ex2⟩ : ∃ z, z = xs 2 := ⟨_, rfl⟩
  obtain ⟨x3, ex3⟩ : ∃ z, z = xs 3 := ⟨_, rfl⟩
  obtain ⟨x4, ex4⟩ : ∃ z, z = xs 4 := ⟨_, rfl⟩
  obtain ⟨x5, ex5⟩ : ∃ z, z = xs 5 := ⟨_, rfl⟩
  refine lv_aload_n hx hb dL_law_1520 rfl (lv_at hl 4 rfl) ?_
  refine lv_aload_n hx hb dL_law_1521 rfl (lv_at hl 5 rfl) ?_
  refine lv_iload hx hb dL_law_1522 (lv_at hl 0 rfl) ?_
  refine lv_iconst (v := 1) hx hb dL_law_1524 (by decide) ?_
  refine lv_iadd hx hb dL_law_1525 ?_
  refine fz_I (y := 1) (by decide) ?_
  refine va_sld hx hb hX hbl hbA hS (fz_vin (by decide)) dL_law_1526 ?_
  refine fz_I (y := x1) ex1.symm ?_
  refine lv_aload_n hx hb dL_law_1527 rfl (lv_at hl 5 rfl) ?_
  refine lv_iload hx hb dL_law_1528 (lv_at hl 0 rfl) ?_
  refine lv_iconst (v := 2) hx hb dL_law_1530 (by decide) ?_
  refine lv_iadd hx hb dL_law_1531 ?_
  refine fz_I (y := 2) (by decide) ?_
  refine va_sld hx hb hX hbl hbA hS (fz_vin (by decide)) dL_law_1532 ?_
  refine fz_I (y := x2) ex2.symm ?_
  refine lv_aload_n hx hb dL_law_1533 rfl (lv_at hl 2 rfl) ?_
  have hPc := hP.sub (ws' := (fz_WC k q f pa v ++ ([(o, .inl (k 5, 1, .inr (.inl g)))]))) [0, 1, 2, 3, 4, 5, 6, 7, 8, 9, 10, 11, 12, 13, 14, 15, 16, 17, 18, 19, 20, 21, 22, 23, 24, 25, 26, 27, 28, 29, 30, 31, 32, 33, 34, 35, 36, 37, 38] rfl
  have hDc : va_D (va_A (fz_WC k q f pa v ++ ([(o, .inl (k 5, 1, .inr (.inl g)))])) H.size) (fz_WC k q f pa v ++ ([(o, .inl (k 5, 1, .inr (.inl g)))])) := (hD.sub (ws' := (fz_WC k q f pa v ++ ([(o, .inl (k 5, 1, .inr (.inl g)))]))) [0, 1, 2, 3, 4, 5, 6, 7, 8, 9, 10, 11, 12, 13, 14, 15, 16, 17, 18, 19, 20, 21, 22, 23, 24, 25, 26, 27, 28, 29, 30, 31, 32, 33, 34, 35, 36, 37, 38] (by decide) rfl).self
  have hFc := va_free (wc := (fz_WC k q f pa v ++ ([(o, .inl (k 5, 1, .inr (.inl g)))]))) hD hS hA [0, 1, 2, 3, 4, 5, 6, 7, 8, 9, 10, 11, 12, 13, 14, 15, 16, 17, 18, 19, 20, 21, 22, 23, 24, 25, 26, 27, 28, 29, 30, 31, 32, 33, 34, 35, 36, 37, 38] rfl
  refine fz_hSi (As := [.ref (q 31), .int x1, .int x2, .ref o]) (rest := []) S0 (h_copyPart l hl0 (va_A (fz_WC k q f pa v ++ ([(o, .inl (k 5, 1, .inr (.inl g)))])) H.size) D k q f pa v o g x1 x2 g_v_7) (vx_cwSW 4 hts9 (fz_gSW fm_744 fm_929 fm_930 fm_816) rfl rfl rfl ⟨by decide, by decide, by decide +kernel⟩ ⟨Nat.le_of_ble_eq_true rfl, Nat.le_of_ble_eq_true rfl⟩) hFc (fun a9 h9 => Or.inr h9) hG hS hPc hK hDc rfl hl.1 rfl (Nat.le_of_ble_eq_true rfl) dL_law_1534 ⟨Nat.le_of_ble_eq_true rfl, Nat.le_of_ble_eq_true rfl⟩ (fun r_1 u_1 H locs hw hz1 hk1 hP1 hS => ?_)
  obtain ⟨hP, hD⟩ := va_join (wr := ([(o2, .inl (k 6, 1, .inr (.inr (.inr (.inl g2)))))] ++ (fz_WM k q2 f2 pa2 v2))) (w1 := ([(o, .inl (k 5, 1, .inr (.inl u_1)))])) hP hD [0, 1, 2, 3, 4, 5, 6, 7, 8, 9, 10, 11, 12, 13, 14, 15, 16, 17, 18, 19, 20, 21, 22, 23, 24, 25, 26, 27, 28, 29, 30, 31, 32, 33, 34, 35, 36, 37, 38] [39, 40, 41, 42, 43, 44, 45, 46, 47] rfl rfl (by decide) (by decide) hk1 hFc hP1 (fz_Dsame (hDc.sub (ws' := [(o, .inl (k 5, 1, .inr (.inl g)))]) [38] (by decide) rfl) rfl)
  have hP : va_P D vwCl ([(o2, .inl (k 6, 1, .inr (.inr (.inr (.inl g2)))))] ++ (fz_WM k q2 f2 pa2 v2 ++ ([(o, .inl (k 5, 1, .inr (.inl u_1)))]))) H := hP
  have hD : va_D (fun q : Nat => s.heap.size ≤ q) ([(o2, .inl (k 6, 1, .inr (.inr (.inr (.inl g2)))))] ++ (fz_WM k q2 f2 pa2 v2 ++ ([(o, .inl (k 5, 1, .inr (.inl u_1)))]))) := hD
  rcases hw with ⟨rfl, hc_1⟩
  · skip
    refine lv_istore (lv' := [(6, .int 1), (5, .int 0), (4, .ref o2), (3, .ref o), (2, .ref (q2 0)), (1, .ref (q 31)), (0, .ref b)]) hx hb dL_law_1537 hl (by decide) rfl (fun ls hl => ?_)
    refine lv_aload_n hx hb dL_law_1539 rfl (lv_at hl 4 rfl) ?_
    refine lv_aload_n hx hb dL_law_1540 rfl (lv_at hl 6 rfl) ?_
    refine lv_iload hx hb dL_law_1541 (lv_at hl 1 rfl) ?_
    refine lv_iconst (v := 1) hx hb dL_law_1543 (by decide) ?_
    refine lv_iadd hx hb dL_law_1544 ?_
    refine fz_I (y := 1) (by decide) ?_
    refine va_sld hx hb hX hbl hbA hS (fz_vin (by decide)) dL_law_1545 ?_
    refine fz_I (y := x1) ex1.symm ?_
    refine lv_aload_n hx hb dL_law_1546 rfl (lv_at hl 6 rfl) ?_
    refine lv_iload hx hb dL_law_1547 (lv_at hl 1 rfl) ?_
    refine lv_iconst (v := 2) hx hb dL_law_1549 (by decide) ?_
    refine lv_iadd hx hb dL_law_1550 ?_
    refine fz_I (y := 2) (by decide) ?_
    refine va_sld hx hb hX hbl hbA hS (fz_vin (by decide)) dL_law_1551 ?_
    refine fz_I (y := x2) ex2.symm ?_
    have hPc := hP.sub (ws' := (fz_WM k q2 f2 pa2 v2)) [1, 2, 3, 4, 5, 6, 7, 8] rfl
    have hDc : va_D (va_A (fz_WM k q2 f2 pa2 v2) H.size) (fz_WM k q2 f2 pa2 v2) := (hD.sub (ws' := (fz_WM k q2 f2 pa2 v2)) [1, 2, 3, 4, 5, 6, 7, 8] (by decide) rfl).self
    have hFc := va_free (wc := (fz_WM k q2 f2 pa2 v2)) hD hS hA [1, 2, 3, 4, 5, 6, 7, 8] rfl
    refine fz_cVi (As := [.int x1, .int x2]) (rest := []) S0 (m_p_copyPart l (va_A (fz_WM k q2 f2 pa2 v2) H.size) D k q2 f2 pa2 v2 x1 x2 n_f_1_3) (fz_cwV (C := RX10) 2 hts9 fm_931 fm_932 fm_933 fm_934 fm_469 rfl rfl ⟨by decide, by decide, by decide +kernel⟩ ⟨Nat.le_of_ble_eq_true rfl, Nat.le_of_ble_eq_true rfl⟩) (va_recv hK hPc (ci := 14) (q0 := 0) rfl rfl) hFc (fun a9 h9 => Or.inr h9) hG hS hPc hK hDc rfl hl.1 rfl (Nat.le_of_ble_eq_true rfl) dL_law_1552 ⟨Nat.le_of_ble_eq_true rfl, Nat.le_of_ble_eq_true rfl⟩ (fun r_2 u_2 H locs hw hz1 hk1 hP1 hS => ?_)
    obtain ⟨hP, hD⟩ := va_join (wr := ([(o2, .inl (k 6, 1, .inr (.inr (.inr (.inl g2)))))] ++ ([(o, .inl (k 5, 1, .inr (.inl u_1)))]))) (w1 := (fz_MO q2 u_2)) hP hD [1, 2, 3, 4, 5, 6, 7, 8] [0, 9] rfl rfl (by decide) (by decide) hk1 hFc hP1 (fz_Dsame (hDc.sub (ws' := fz_MO q2 v2) [0] (by decide) rfl) rfl)
    have hP : va_P D vwCl ([(o2, .inl (k 6, 1, .inr (.inr (.inr (.inl g2)))))] ++ ([(o, .inl (k 5, 1, .inr (.inl u_1)))] ++ (fz_MO q2 u_2))) H := hP
    have hD : va_D (fun q : Nat => s.heap.size ≤ q) ([(o2, .inl (k 6, 1, .inr (.inr (.inr (.inl g2)))))] ++ ([(o, .inl (k 5, 1, .inr (.inl u_1)))] ++ (fz_MO q2 u_2))) := hD
    rcases hw with ⟨rfl, ht_2, hc_2⟩
    · skip
      refine lv_istore (lv' := [(7, .int 0), (6, .int 1), (5, .int 0), (4, .ref o2), (3, .ref o), (2, .ref (q2 0)), (1, .ref (q 31)), (0, .ref b)]) hx hb dL_law_1555 hl (by decide) rfl (fun ls hl => ?_)
      refine lv_aload_n hx hb dL_law_1557 rfl (lv_at hl 5 rfl) ?_
      have hPc := hP.sub (ws' := (fz_MO q2 u_2)) [2] rfl
      have hDc : va_D (va_A (fz_MO q2 u_2) H.size) (fz_MO q2 u_2) := (hD.sub (ws' := (fz_MO q2 u_2)) [2] (by decide) rfl).self
      have hFc := va_free (wc := (fz_MO q2 u_2)) hD hS hA [2] rfl
      refine fz_cVi (As := []) (rest := []) S0 (m_thrown l (va_A (fz_MO q2 u_2) H.size) D k q2 u_2) (fz_cwV (C := RX10) 0 hts9 fm_823 fm_824 fm_825 fm_826 fm_469 rfl rfl ⟨by decide, by decide, by decide +kernel⟩ ⟨Nat.le_of_ble_eq_true rfl, Nat.le_of_ble_eq_true rfl⟩) (va_recv hK hPc (ci := 14) (q0 := 0) rfl rfl) hFc (fun a9 h9 => Or.inr h9) hG hS hPc hK hDc rfl hl.1 rfl (Nat.le_of_ble_eq_true rfl) dL_law_1558 ⟨Nat.le_of_ble_eq_true rfl, Nat.le_of_ble_eq_true rfl⟩ (fun r_3 u_3 H locs hw hz1 hk1 hP1 hS => ?_)
      obtain ⟨hP, hD⟩ := va_join (wr := ([(o2, .inl (k 6, 1, .inr (.inr (.inr (.inl g2)))))] ++ ([(o, .inl (k 5, 1, .inr (.inl u_1)))]))) (w1 := (fz_MO q2 u_2)) hP hD [2] [0, 1] rfl rfl (by decide) (by decide) hk1 hFc hP1 hDc
      have hP : va_P D vwCl ([(o2, .inl (k 6, 1, .inr (.inr (.inr (.inl g2)))))] ++ ([(o, .inl (k 5, 1, .inr (.inl u_1)))] ++ (fz_MO q2 u_2))) H := hP
      have hD : va_D (fun q : Nat => s.heap.size ≤ q) ([(o2, .inl (k 6, 1, .inr (.inr (.inr (.inl g2)))))] ++ ([(o, .inl (k 5, 1, .inr (.inl u_1)))] ++ (fz_MO q2 u_2))) := hD
      obtain rfl : r_3 = u_2 0 := hw
      refine fz_I (y := 1) ht_2 ?_
      refine lv_iload hx hb dL_law_1561 (lv_at hl 1 rfl) ?_
      refine lv_icmp_eq (tgt := 1568) hx hb dL_law_1563 (by decide) (fun c9 => ?_) (fun c9 => absurd (by decide) c9)
      refine lv_iload hx hb dL_law_1568 (lv_at hl 1 rfl) ?_
      refine lv_if_ne (tgt := 1585) hx hb dL_law_1570 (by decide) (fun c9 => ?_) (fun c9 => absurd c9 (by decide))
      refine lv_goto (tgt := 2457) hx hb dL_law_1585 (by decide) ?_
      exact lw_tail hL C0 (Nat.le_of_ble_eq_true rfl) (Nat.le_of_ble_eq_true rfl) hS ls (lv_sub hl [2, 7] rfl)

set_option maxHeartbeats 8000000 in
set_option maxRecDepth 100000 in
theorem lw_case20 {p : Program} {l : Launch} {e : Env} {s : State} {m : MethodId} {below : List Frame} {meth : Method} {c : Code} {D : va_G} {b L : Nat} {xs : Nat → Int32} (hl0 : l.stackTraces = false) (hL : L = 6) (C0 : lw_At p s m meth c b L xs) (hG : fz_GS (fun q : Nat => s.heap.size ≤ q) s) (k : Nat → ClassId) (hK : va_K D vwCl (fz_tys k) s) (q q2 : Nat → Nat) (f f2 : Nat → Nat → Int32) (pa pa2 : Nat → Option Nat) (v v2 : Nat → Int32) (o o2 : Nat) (g : Nat → Int64) (g2 : Nat → UInt64) (hF : fz_LF q2 f pa v f2 pa2 v2) (H : Heap) (locs : List Loc) (hP : va_P D vwCl (fz_WC k q f pa v ++ ([(o, .inl (k 5, 1, .inr (.inl g)))] ++ ([(o2, .inl (k 6, 1, .inr (.inr (.inr (.inl g2)))))] ++ (fz_WM k q2 f2 pa2 v2)))) H) (hD : va_D (fun q : Nat => s.heap.size ≤ q) (fz_WC k q f pa v ++ ([(o, .inl (k 5, 1, .inr (.inl g)))] ++ ([(o2, .inl (k 6, 1, .inr (.inr (.inr (.inl g2)))))] ++ (fz_WM k q2 f2 pa2 v2))))) (hS : va_S (fun q : Nat => s.heap.size ≤ q) s.heap H locs) (ls : Array Slot) (hl : lv_has ls 9 [(5, .int 0), (4, .ref o2), (3, .ref o), (2, .ref (q2 0)), (1, .ref (q 31)), (0, .ref b)]) :
    W p l e room_1 s m #[Value.ref b] below meth c H locs 2000 400000 (lw_Z below #[Value.ref b] s) (F0 m 1588 ls []) := by
  obtain ⟨g_v_0, g_v_1, g_v_2, g_v_3, g_v_4, g_v_5, g_v_6, g_v_7, g_v_8, g_v_9, g_v_10, g_v_11, g_v_12, g_v_13, g_v_14, g_v_15, g_v_17, g_f_2_0, g_f_4_0, g_f_5_0, g_f_6_0, g_f_7_0, g_f_8_0, g_f_9_0, g_f_11_0, g_f_18_0, g_f_19_0, g_pa_0, g_pa_1, g_pa_8, n_v_0, n_v_5, n_v_6, n_v_7, n_v_8, n_v_9, n_v_10, n_v_11, n_v_12, n_v_13, n_v_15, n_v_16, n_v_17, n_v_18, n_v_19, n_v_21, n_f_1_0, n_f_1_1, n_f_1_2, n_f_1_3, n_f_1_4, n_f_1_5, n_f_1_6, n_f_1_7, n_f_1_8, n_f_1_9, n_f_1_10, n_f_1_11, n_f_1_12, n_f_1_13, n_f_1_15, n_f_1_16, n_f_1_17, n_pb_0⟩ := hF
  obtain ⟨hx, hb, hr, hml, hown, hts, hX, hbl, hlocks, hgv⟩ := id C0
  subst hL
  have hL : (6 : Nat) = 6 := rfl
  have hA : ∀ q : Nat, s.heap.size ≤ q → (fun q : Nat => s.heap.size ≤ q) q := fun _ h => h
  have hbA : ¬ (fun q : Nat => s.heap.size ≤ q) b := Nat.not_le.mpr hbl
  have hts9 := fz_hts9 hts
  have hown : s.vm.findClass RL = some m.cls := hown
  have S0 : CallFix p m c code 9 s #[Value.ref b] (Cond.initialized RL :: fz_WA) RL := ⟨hx, hb, hml, hown, hts9⟩
  obtain ⟨x1, ex1⟩ : ∃ z, z = xs 1 := ⟨_, rfl⟩
  obtain ⟨x2, ex2⟩ : ∃ z, z = xs 2 := ⟨_, rfl⟩
  obtain ⟨x3, ex3⟩ : ∃ z, z = xs 3 := ⟨_, rfl⟩
  obtain ⟨x4, ex4⟩ : ∃ z, z = xs 4 := ⟨_, rfl⟩
  obtain ⟨x5, ex5⟩ : ∃ z, z = xs 5 := ⟨_, rfl⟩
  refine lv_aload_n hx hb dL_law_1588 rfl (lv_at hl 4 rfl) ?_
  refine lv_aload_n hx hb dL_law_1589 rfl (lv_at hl 5 rfl) ?_
  refine lv_iload hx hb dL_law_1590 (lv_at hl 0 rfl) ?_
  refine lv_iconst (v := 1) hx hb dL_law_1592 (by decide) ?_
  refine lv_iadd hx hb dL_law_1593 ?_
  refine fz_I (y := 1) (by decide) ?_
  refine va_sld hx hb hX hbl hbA hS (fz_vin (by decide)) dL_law_1594 ?_
  refine fz_I (y := x1) ex1.symm ?_
  refine lv_aload_n hx hb dL_law_1595 rfl (lv_at hl 2 rfl) ?_
  have hPc := hP.sub (ws' := (fz_WC k q f pa v ++ ([(o, .inl (k 5, 1, .inr (.inl g)))]))) [0, 1, 2, 3, 4, 5, 6, 7, 8, 9, 10, 11, 12, 13, 14, 15, 16, 17, 18, 19, 20, 21, 22, 23, 24, 25, 26, 27, 28, 29, 30, 31, 32, 33, 34, 35, 36, 37, 38] rfl
  have hDc : va_D (va_A (fz_WC k q f pa v ++ ([(o, .inl (k 5, 1, .inr (.inl g)))])) H.size) (fz_WC k q f pa v ++ ([(o, .inl (k 5, 1, .inr (.inl g)))])) := (hD.sub (ws' := (fz_WC k q f pa v ++ ([(o, .inl (k 5, 1, .inr (.inl g)))]))) [0, 1, 2, 3, 4, 5, 6, 7, 8, 9, 10, 11, 12, 13, 14, 15, 16, 17, 18, 19, 20, 21, 22, 23, 24, 25, 26, 27, 28, 29, 30, 31, 32, 33, 34, 35, 36, 37, 38] (by decide) rfl).self
  have hFc := va_free (wc := (fz_WC k q f pa v ++ ([(o, .inl (k 5, 1, .inr (.inl g)))]))) hD hS hA [0, 1, 2, 3, 4, 5, 6, 7, 8, 9, 10, 11, 12, 13, 14, 15, 16, 17, 18, 19, 20, 21, 22, 23, 24, 25, 26, 27, 28, 29, 30, 31, 32, 33, 34, 35, 36, 37, 38] rfl
  refine fz_hSi (As := [.ref (q 31), .int x1, .ref o]) (rest := []) S0 (h_setSeats l hl0 (va_A (fz_WC k q f pa v ++ ([(o, .inl (k 5, 1, .inr (.inl g)))])) H.size) D k q f pa v o g x1 g_v_9 g_v_1 g_v_2 g_v_3 g_v_4 g_v_5 g_v_6 g_v_7 g_v_8 g_v_0 g_v_10 g_pa_1) (vx_cwSW 3 hts9 (fz_gSW fm_749 fm_935 fm_936 fm_816) rfl rfl rfl ⟨by decide, by decide, by decide +kernel⟩ ⟨Nat.le_of_ble_eq_true rfl, Nat.le_of_ble_eq_true rfl⟩) hFc (fun a9 h9 => Or.inr h9) hG hS hPc hK hDc rfl hl.1 rfl (Nat.le_of_ble_eq_true rfl) dL_law_1596 ⟨Nat.le_of_ble_eq_true rfl, Nat.le_of_ble_eq_true rfl⟩ (fun r_1 u_1 H locs hw hz1 hk1 hP1 hS => ?_)
  obtain ⟨hP, hD⟩ := va_join (wr := ([(o2, .inl (k 6, 1, .inr (.inr (.inr (.inl g2)))))] ++ (fz_WM k q2 f2 pa2 v2))) (w1 := ([(o, .inl (k 5, 1, .inr (.inl u_1)))])) hP hD [0, 1, 2, 3, 4, 5, 6, 7, 8, 9, 10, 11, 12, 13, 14, 15, 16, 17, 18, 19, 20, 21, 22, 23, 24, 25, 26, 27, 28, 29, 30, 31, 32, 33, 34, 35, 36, 37, 38] [39, 40, 41, 42, 43, 44, 45, 46, 47] rfl rfl (by decide) (by decide) hk1 hFc hP1 (fz_Dsame (hDc.sub (ws' := [(o, .inl (k 5, 1, .inr (.inl g)))]) [38] (by decide) rfl) rfl)
  have hP : va_P D vwCl ([(o2, .inl (k 6, 1, .inr (.inr (.inr (.inl g2)))))] ++ (fz_WM k q2 f2 pa2 v2 ++ ([(o, .inl (k 5, 1, .inr (.inl u_1)))]))) H := hP
  have hD : va_D (fun q : Nat => s.heap.size ≤ q) ([(o2, .inl (k 6, 1, .inr (.inr (.inr (.inl g2)))))] ++ (fz_WM k q2 f2 pa2 v2 ++ ([(o, .inl (k 5, 1, .inr (.inl u_1)))]))) := hD
  rcases hw with ⟨rfl, hu_1, hc_1⟩ | ⟨rfl, hc_1⟩
  · skip
    refine lv_istore (lv' := [(6, .int 0), (5, .int 0), (4, .ref o2), (3, .ref o), (2, .ref (q2 0)), (1, .ref (q 31)), (0, .ref b)]) hx hb dL_law_1599 hl (by decide) rfl (fun ls hl => ?_)
    refine lv_aload_n hx hb dL_law_1601 rfl (lv_at hl 4 rfl) ?_
    refine lv_aload_n hx hb dL_law_1602 rfl (lv_at hl 6 rfl) ?_
    refine lv_iload hx hb dL_law_1603 (lv_at hl 1 rfl) ?_
    refine lv_iconst (v := 1) hx hb dL_law_1605 (by decide) ?_
    refine lv_iadd hx hb dL_law_1606 ?_
    refine fz_I (y := 1) (by decide) ?_
    refine va_sld hx hb hX hbl hbA hS (fz_vin (by decide)) dL_law_1607 ?_
    refine fz_I (y := x1) ex1.symm ?_
    have hPc := hP.sub (ws' := (fz_WM k q2 f2 pa2 v2)) [1, 2, 3, 4, 5, 6, 7, 8] rfl
    have hDc : va_D (va_A (fz_WM k q2 f2 pa2 v2) H.size) (fz_WM k q2 f2 pa2 v2) := (hD.sub (ws' := (fz_WM k q2 f2 pa2 v2)) [1, 2, 3, 4, 5, 6, 7, 8] (by decide) rfl).self
    have hFc := va_free (wc := (fz_WM k q2 f2 pa2 v2)) hD hS hA [1, 2, 3, 4, 5, 6, 7, 8] rfl
    refine fz_cVi (As := [.int x1]) (rest := []) S0 (m_p_setSeats l (va_A (fz_WM k q2 f2 pa2 v2) H.size) D k q2 f2 pa2 v2 x1 n_v_5 n_pb_0 n_f_1_5) (fz_cwV (C := RX10) 1 hts9 fm_937 fm_938 fm_939 fm_940 fm_469 rfl rfl ⟨by decide, by decide, by decide +kernel⟩ ⟨Nat.le_of_ble_eq_true rfl, Nat.le_of_ble_eq_true rfl⟩) (va_recv hK hPc (ci := 14) (q0 := 0) rfl rfl) hFc (fun a9 h9 => Or.inr h9) hG hS hPc hK hDc rfl hl.1 rfl (Nat.le_of_ble_eq_true rfl) dL_law_1608 ⟨Nat.le_of_ble_eq_true rfl, Nat.le_of_ble_eq_true rfl⟩ (fun r_2 u_2 H locs hw hz1 hk1 hP1 hS => ?_)
    obtain ⟨hP, hD⟩ := va_join (wr := ([(o2, .inl (k 6, 1, .inr (.inr (.inr (.inl g2)))))] ++ ([(o, .inl (k 5, 1, .inr (.inl u_1)))]))) (w1 := (fz_MO q2 u_2)) hP hD [1, 2, 3, 4, 5, 6, 7, 8] [0, 9] rfl rfl (by decide) (by decide) hk1 hFc hP1 (fz_Dsame (hDc.sub (ws' := fz_MO q2 v2) [0] (by decide) rfl) rfl)
    have hP : va_P D vwCl ([(o2, .inl (k 6, 1, .inr (.inr (.inr (.inl g2)))))] ++ ([(o, .inl (k 5, 1, .inr (.inl u_1)))] ++ (fz_MO q2 u_2))) H := hP
    have hD : va_D (fun q : Nat => s.heap.size ≤ q) ([(o2, .inl (k 6, 1, .inr (.inr (.inr (.inl g2)))))] ++ ([(o, .inl (k 5, 1, .inr (.inl u_1)))] ++ (fz_MO q2 u_2))) := hD
    rcases hw with ⟨rfl, ht_2, hc_2⟩ | ⟨rfl, ht_2, hc_2⟩
    · skip
      exact (fq_239 x1 hc_1 hc_2).elim
    · skip
      refine lv_istore (lv' := [(7, .int 3), (6, .int 0), (5, .int 0), (4, .ref o2), (3, .ref o), (2, .ref (q2 0)), (1, .ref (q 31)), (0, .ref b)]) hx hb dL_law_1611 hl (by decide) rfl (fun ls hl => ?_)
      refine lv_aload_n hx hb dL_law_1613 rfl (lv_at hl 5 rfl) ?_
      have hPc := hP.sub (ws' := (fz_MO q2 u_2)) [2] rfl
      have hDc : va_D (va_A (fz_MO q2 u_2) H.size) (fz_MO q2 u_2) := (hD.sub (ws' := (fz_MO q2 u_2)) [2] (by decide) rfl).self
      have hFc := va_free (wc := (fz_MO q2 u_2)) hD hS hA [2] rfl
      refine fz_cVi (As := []) (rest := []) S0 (m_thrown l (va_A (fz_MO q2 u_2) H.size) D k q2 u_2) (fz_cwV (C := RX10) 0 hts9 fm_823 fm_824 fm_825 fm_826 fm_469 rfl rfl ⟨by decide, by decide, by decide +kernel⟩ ⟨Nat.le_of_ble_eq_true rfl, Nat.le_of_ble_eq_true rfl⟩) (va_recv hK hPc (ci := 14) (q0 := 0) rfl rfl) hFc (fun a9 h9 => Or.inr h9) hG hS hPc hK hDc rfl hl.1 rfl (Nat.le_of_ble_eq_true rfl) dL_law_1614 ⟨Nat.le_of_ble_eq_true rfl, Nat.le_of_ble_eq_true rfl⟩ (fun r_3 u_3 H locs hw hz1 hk1 hP1 hS => ?_)
      obtain ⟨hP, hD⟩ := va_join (wr := ([(o2, .inl (k 6, 1, .inr (.inr (.inr (.inl g2)))))] ++ ([(o, .inl (k 5, 1, .inr (.inl u_1)))]))) (w1 := (fz_MO q2 u_2)) hP hD [2] [0, 1] rfl rfl (by decide) (by decide) hk1 hFc hP1 hDc
      have hP : va_P D vwCl ([(o2, .inl (k 6, 1, .inr (.inr (.inr (.inl g2)))))] ++ ([(o, .inl (k 5, 1, .inr (.inl u_1)))] ++ (fz_MO q2 u_2))) H := hP
      have hD : va_D (fun q : Nat => s.heap.size ≤ q) ([(o2, .inl (k 6, 1, .inr (.inr (.inr (.inl g2)))))] ++ ([(o, .inl (k 5, 1, .inr (.inl u_1)))] ++ (fz_MO q2 u_2))) := hD
      obtain rfl : r_3 = u_2 0 := hw
      refine fz_I (y := 0) ht_2 ?_
      refine lv_iload hx hb dL_law_1617 (lv_at hl 1 rfl) ?_
      refine lv_icmp_eq (tgt := 1624) hx hb dL_law_1619 (by decide) (fun c9 => ?_) (fun c9 => absurd (by decide) c9)
      refine lv_iload hx hb dL_law_1624 (lv_at hl 1 rfl) ?_
      refine lv_if_ne (tgt := 1641) hx hb dL_law_1626 (by decide) (fun c9 => absurd (by decide) c9) (fun c9 => ?_)
      refine lv_aload_n hx hb dL_law_1629 rfl (lv_at hl 4 rfl) ?_
      refine lv_iconst (v := 0) hx hb dL_law_1630 (by decide) ?_
      refine va_lald hx hb hK hP 1 5 rfl rfl (fz_vin (by decide)) dL_law_1631 ?_
      refine fz_V (y := .long ((3 : Int32).toInt64)) (congrArg Value.long hu_1) ?_
      refine lv_iload hx hb dL_law_1632 (lv_at hl 0 rfl) ?_
      refine lv_i2l (v := (3 : Int32).toInt64) hx hb dL_law_1634 rfl ?_
      refine W.lcmp hx hb dL_law_1635 ?_
      refine fz_I (y := 0) (by decide) ?_
      refine lv_if_eq (tgt := 1641) hx hb dL_law_1636 (by decide) (fun c9 => ?_) (fun c9 => absurd (by decide) c9)
      refine lv_goto (tgt := 2457) hx hb dL_law_1641 (by decide) ?_
      exact lw_tail hL C0 (Nat.le_of_ble_eq_true rfl) (Nat.le_of_ble_eq_true rfl) hS ls (lv_sub hl [2, 7] rfl)
  · skip
    refine lv_istore (lv' := [(6, .int 1), (5, .int 0), (4, .ref o2), (3, .ref o), (2, .ref (q2 0)), (1, .ref (q 31)), (0, .ref b)]) hx hb dL_law_1599 hl (by decide) rfl (fun ls hl => ?_)
    refine lv_aload_n hx hb dL_law_1601 rfl (lv_at hl 4 rfl) ?_
    refine lv_aload_n hx hb dL_law_1602 rfl (lv_at hl 6 rfl) ?_
    refine lv_iload hx hb dL_law_1603 (lv_at hl 1 rfl) ?_
    refine lv_iconst (v := 1) hx hb dL_law_1605 (by decide) ?_
    refine lv_iadd hx hb dL_law_1606 ?_
    refine fz_I (y := 1) (by decide) ?_
    refine va_sld hx hb hX hbl hbA hS (fz_vin (by decide)) dL_law_1607 ?_
    refine fz_I (y := x1) ex1.symm ?_
    have hPc := hP.sub (ws' := (fz_WM k q2 f2 pa2 v2)) [1, 2, 3, 4, 5, 6, 7, 8] rfl
    have hDc : va_D (va_A (fz_WM k q2 f2 pa2 v2) H.size) (fz_WM k q2 f2 pa2 v2) := (hD.sub (ws' := (fz_WM k q2 f2 pa2 v2)) [1, 2, 3, 4, 5, 6, 7, 8] (by decide) rfl).self
    have hFc := va_free (wc := (fz_WM k q2 f2 pa2 v2)) hD hS hA [1, 2, 3, 4, 5, 6, 7, 8] rfl
    refine fz_cVi (As := [.int x1]) (rest := []) S0 (m_p_setSeats l (va_A (fz_WM k q2 f2 pa2 v2) H.size) D k q2 f2 pa2 v2 x1 n_v_5 n_pb_0 n_f_1_5) (fz_cwV (C := RX10) 1 hts9 fm_937 fm_938 fm_939 fm_940 fm_469 rfl rfl ⟨by decide, by decide, by decide +kernel⟩ ⟨Nat.le_of_ble_eq_true rfl, Nat.le_of_ble_eq_true rfl⟩) (va_recv hK hPc (ci := 14) (q0 := 0) rfl rfl) hFc (fun a9 h9 => Or.inr h9) hG hS hPc hK hDc rfl hl.1 rfl (Nat.le_of_ble_eq_true rfl) dL_law_1608 ⟨Nat.le_of_ble_eq_true rfl, Nat.le_of_ble_eq_true rfl⟩ (fun r_2 u_2 H locs hw hz1 hk1 hP1 hS => ?_)
    obtain ⟨hP, hD⟩ := va_join (wr := ([(o2, .inl (k 6, 1, .inr (.inr (.inr (.inl g2)))))] ++ ([(o, .inl (k 5, 1, .inr (.inl u_1)))]))) (w1 := (fz_MO q2 u_2)) hP hD [1, 2, 3, 4, 5, 6, 7, 8] [0, 9] rfl rfl (by decide) (by decide) hk1 hFc hP1 (fz_Dsame (hDc.sub (ws' := fz_MO q2 v2) [0] (by decide) rfl) rfl)
    have hP : va_P D vwCl ([(o2, .inl (k 6, 1, .inr (.inr (.inr (.inl g2)))))] ++ ([(o, .inl (k 5, 1, .inr (.inl u_1)))] ++ (fz_MO q2 u_2))) H := hP
    have hD : va_D (fun q : Nat => s.heap.size ≤ q) ([(o2, .inl (k 6, 1, .inr (.inr (.inr (.inl g2)))))] ++ ([(o, .inl (k 5, 1, .inr (.inl u_1)))] ++ (fz_MO q2 u_2))) := hD
    rcases hw with ⟨rfl, ht_2, hc_2⟩ | ⟨rfl, ht_2, hc_2⟩
    · skip
      refine lv_istore (lv' := [(7, .int 0), (6, .int 1), (5, .int 0), (4, .ref o2), (3, .ref o), (2, .ref (q2 0)), (1, .ref (q 31)), (0, .ref b)]) hx hb dL_law_1611 hl (by decide) rfl (fun ls hl => ?_)
      refine lv_aload_n hx hb dL_law_1613 rfl (lv_at hl 5 rfl) ?_
      have hPc := hP.sub (ws' := (fz_MO q2 u_2)) [2] rfl
      have hDc : va_D (va_A (fz_MO q2 u_2) H.size) (fz_MO q2 u_2) := (hD.sub (ws' := (fz_MO q2 u_2)) [2] (by decide) rfl).self
      have hFc := va_free (wc := (fz_MO q2 u_2)) hD hS hA [2] rfl
      refine fz_cVi (As := []) (rest := []) S0 (m_thrown l (va_A (fz_MO q2 u_2) H.size) D k q2 u_2) (fz_cwV (C := RX10) 0 hts9 fm_823 fm_824 fm_825 fm_826 fm_469 rfl rfl ⟨by decide, by decide, by decide +kernel⟩ ⟨Nat.le_of_ble_eq_true rfl, Nat.le_of_ble_eq_true rfl⟩) (va_recv hK hPc (ci := 14) (q0 := 0) rfl rfl) hFc (fun a9 h9 => Or.inr h9) hG hS hPc hK hDc rfl hl.1 rfl (Nat.le_of_ble_eq_true rfl) dL_law_1614 ⟨Nat.le_of_ble_eq_true rfl, Nat.le_of_ble_eq_true rfl⟩ (fun r_3 u_3 H locs hw hz1 hk1 hP1 hS => ?_)
      obtain ⟨hP, hD⟩ := va_join (wr := ([(o2, .inl (k 6, 1, .inr (.inr (.inr (.inl g2)))))] ++ ([(o, .inl (k 5, 1, .inr (.inl u_1)))]))) (w1 := (fz_MO q2 u_2)) hP hD [2] [0, 1] rfl rfl (by decide) (by decide) hk1 hFc hP1 hDc
      have hP : va_P D vwCl ([(o2, .inl (k 6, 1, .inr (.inr (.inr (.inl g2)))))] ++ ([(o, .inl (k 5, 1, .inr (.inl u_1)))] ++ (fz_MO q2 u_2))) H := hP
      have hD : va_D (fun q : Nat => s.heap.size ≤ q) ([(o2, .inl (k 6, 1, .inr (.inr (.inr (.inl g2)))))] ++ ([(o, .inl (k 5, 1, .inr (.inl u_1)))] ++ (fz_MO q2 u_2))) := hD
      obtain rfl : r_3 = u_2 0 := hw
      refine fz_I (y := 1) ht_2 ?_
      refine lv_iload hx hb dL_law_1617 (lv_at hl 1 rfl) ?_
      refine lv_icmp_eq (tgt := 1624) hx hb dL_law_1619 (by decide) (fun c9 => ?_) (fun c9 => absurd (by decide) c9)
      refine lv_iload hx hb dL_law_1624 (lv_at hl 1 rfl) ?_
      refine lv_if_ne (tgt := 1641) hx hb dL_law_1626 (by decide) (fun c9 => ?_) (fun c9 => absurd c9 (by decide))
      refine lv_goto (tgt := 2457) hx hb dL_law_1641 (by decide) ?_
      exact lw_tail hL C0 (Nat.le_of_ble_eq_true rfl) (Nat.le_of_ble_eq_true rfl) hS ls (lv_sub hl [2, 7] rfl)
    · skip
      exact (fq_240 x1 hc_1 hc_2).elim

set_option maxHeartbeats 8000000 in
set_option maxRecDepth 100000 in
theorem lw_case21 {p : Program} {l : Launch} {e : Env} {s : State} {m : MethodId} {below : List Frame} {meth : Method} {c : Code} {D : va_G} {b L : Nat} {xs : Nat → Int32} (hl0 : l.stackTraces = false) (hL : L = 6) (C0 : lw_At p s m meth c b L xs) (hG : fz_GS (fun q : Nat => s.heap.size ≤ q) s) (k : Nat → ClassId) (hK : va_K D vwCl (fz_tys k) s) (q q2 : Nat → Nat) (f f2 : Nat → Nat → Int32) (pa pa2 : Nat → Option Nat) (v v2 : Nat → Int32) (o o2 : Nat) (g : Nat → Int64) (g2 : Nat → UInt64) (hF : fz_LF q2 f pa v f2 pa2 v2) (H : Heap) (locs : List Loc) (hP : va_P D vwCl (fz_WC k q f pa v ++ ([(o, .inl (k 5, 1, .inr (.inl g)))] ++ ([(o2, .inl (k 6, 1, .inr (.inr (.inr (.inl g2)))))] ++ (fz_WM k q2 f2 pa2 v2)))) H) (hD : va_D (fun q : Nat => s.heap.size ≤ q) (fz_WC k q f pa v ++ ([(o, .inl (k 5, 1, .inr (.inl g)))] ++ ([(o2, .inl (k 6, 1, .inr (.inr (.inr (.inl g2)))))] ++ (fz_WM k q2 f2 pa2 v2))))) (hS : va_S (fun q : Nat => s.heap.size ≤ q) s.heap H locs) (ls : Array Slot) (hl : lv_has ls 9 [(5, .int 0), (4, .ref o2), (3, .ref o), (2, .ref (q2 0)), (1, .ref (q 31)), (0, .ref b)]) :
    W p l e room_1 s m #[Value.ref b] below meth c H locs 2000 400000 (lw_Z below #[Value.ref b] s) (F0 m 1644 ls []) := by
  obtain ⟨g_v_0, g_v_1, g_v_2, g_v_3, g_v_4, g_v_5, g_v_6, g_v_7, g_v_8, g_v_9, g_v_10, g_v_11, g_v_12, g_v_13, g_v_14, g_v_15, g_v_17, g_f_2_0, g_f_4_0, g_f_5_0, g_f_6_0, g_f_7_0, g_f_8_0, g_f_9_0, g_f_11_0, g_f_18_0, g_f_19_0, g_pa_0, g_pa_1, g_pa_8, n_v_0, n_v_5, n_v_6, n_v_7, n_v_8, n_v_9, n_v_10, n_v_11, n_v_12, n_v_13, n_v_15, n_v_16, n_v_17, n_v_18, n_v_19, n_v_21, n_f_1_0, n_f_1_1, n_f_1_2, n_f_1_3, n_f_1_4, n_f_1_5, n_f_1_6, n_f_1_7, n_f_1_8, n_f_1_9, n_f_1_10, n_f_1_11, n_f_1_12, n_f_1_13, n_f_1_15, n_f_1_16, n_f_1_17, n_pb_0⟩ := hF
  obtain ⟨hx, hb, hr, hml, hown, hts, hX, hbl, hlocks, hgv⟩ := id C0
  subst hL
  have hL : (6 : Nat) = 6 := rfl
  have hA : ∀ q : Nat, s.heap.size ≤ q → (fun q : Nat => s.heap.size ≤ q) q := fun _ h => h
  have hbA : ¬ (fun q : Nat => s.heap.size ≤ q) b := Nat.not_le.mpr hbl
  have hts9 := fz_hts9 hts
  have hown : s.vm.findClass RL = some m.cls := hown
  have S0 : CallFix p m c code 9 s #[Value.ref b] (Cond.initialized RL :: fz_WA) RL := ⟨hx, hb, hml, hown, hts9⟩
  obtain ⟨x1, ex1⟩ : ∃ z, z = xs 1 := ⟨_, rfl⟩
  obtain ⟨x2, ex2⟩ : ∃ z, z = xs 2 := ⟨_, rfl⟩
  obtain ⟨x3, ex3⟩ : ∃ z, z = xs 3 := ⟨_, rfl⟩
  obtain ⟨x4, ex4⟩ : ∃ z, z = xs 4 := ⟨_, rfl⟩
  obtain ⟨x5, ex5⟩ : ∃ z, z = xs 5 := ⟨_, rfl⟩
  refine lv_aload_n hx hb dL_law_1644 rfl (lv_at hl 4 rfl) ?_
  refine lv_aload_n hx hb dL_law_1645 rfl (lv_at hl 5 rfl) ?_
  refine lv_iload hx hb dL_law_1646 (lv_at hl 0 rfl) ?_
  refine lv_iconst (v := 1) hx hb dL_law_1648 (by decide) ?_
  refine lv_iadd hx hb dL_law_1649 ?_
  refine fz_I (y := 1) (by decide) ?_
  refine va_sld hx hb hX hbl hbA hS (fz_vin (by decide)) dL_law_1650 ?_
  refine fz_I (y := x1) ex1.symm ?_
  refine lv_aload_n hx hb dL_law_1651 rfl (lv_at hl 5 rfl) ?_
  refine lv_iload hx hb dL_law_1652 (lv_at hl 0 rfl) ?_
  refine lv_iconst (v := 2) hx hb dL_law_1654 (by decide) ?_
  refine lv_iadd hx hb dL_law_1655 ?_
  refine fz_I (y := 2) (by decide) ?_
  refine va_sld hx hb hX hbl hbA hS (fz_vin (by decide)) dL_law_1656 ?_
  refine fz_I (y := x2) ex2.symm ?_
  refine lv_aload_n hx hb dL_law_1657 rfl (lv_at hl 5 rfl) ?_
  refine lv_iload hx hb dL_law_1658 (lv_at hl 0 rfl) ?_
  refine lv_iconst (v := 3) hx hb dL_law_1660 (by decide) ?_
  refine lv_iadd hx hb dL_law_1661 ?_
  refine fz_I (y := 3) (by decide) ?_
  refine va_sld hx hb hX hbl hbA hS (fz_vin (by decide)) dL_law_1662 ?_
  refine fz_I (y := x3) ex3.symm ?_
  refine lv_aload_n hx hb dL_law_1663 rfl (lv_at hl 2 rfl) ?_
  have hPc := hP.sub (ws' := (fz_WC k q f pa v ++ ([(o, .inl (k 5, 1, .inr (.inl g)))]))) [0, 1, 2, 3, 4, 5, 6, 7, 8, 9, 10, 11, 12, 13, 14, 15, 16, 17, 18, 19, 20, 21, 22, 23, 24, 25, 26, 27, 28, 29, 30, 31, 32, 33, 34, 35, 36, 37, 38] rfl
  have hDc : va_D (va_A (fz_WC k q f pa v ++ ([(o, .inl (k 5, 1, .inr (.inl g)))])) H.size) (fz_WC k q f pa v ++ ([(o, .inl (k 5, 1, .inr (.inl g)))])) := (hD.sub (ws' := (fz_WC k q f pa v ++ ([(o, .inl (k 5, 1, .inr (.inl g)))]))) [0, 1, 2, 3, 4, 5, 6, 7, 8, 9, 10, 11, 12, 13, 14, 15, 16, 17, 18, 19, 20, 21, 22, 23, 24, 25, 26, 27, 28, 29, 30, 31, 32, 33, 34, 35, 36, 37, 38] (by decide) rfl).self
  have hFc := va_free (wc := (fz_WC k q f pa v ++ ([(o, .inl (k 5, 1, .inr (.inl g)))]))) hD hS hA [0, 1, 2, 3, 4, 5, 6, 7, 8, 9, 10, 11, 12, 13, 14, 15, 16, 17, 18, 19, 20, 21, 22, 23, 24, 25, 26, 27, 28, 29, 30, 31, 32, 33, 34, 35, 36, 37, 38] rfl
  refine fz_hSi (As := [.ref (q 31), .int x1, .int x2, .int x3, .ref o]) (rest := []) S0 (h_request l hl0 (va_A (fz_WC k q f pa v ++ ([(o, .inl (k 5, 1, .inr (.inl g)))])) H.size) D k q f pa v o g x1 x2 x3 g_v_1 g_f_4_0 g_f_7_0) (vx_cwSW 5 hts9 (fz_gSW fm_754 fm_941 fm_942 fm_816) rfl rfl rfl ⟨by decide, by decide, by decide +kernel⟩ ⟨Nat.le_of_ble_eq_true rfl, Nat.le_of_ble_eq_true rfl⟩) hFc (fun a9 h9 => Or.inr h9) hG hS hPc hK hDc rfl hl.1 rfl (Nat.le_of_ble_eq_true rfl) dL_law_1664 ⟨Nat.le_of_ble_eq_true rfl, Nat.le_of_ble_eq_true rfl⟩ (fun r_1 u_1 H locs hw hz1 hk1 hP1 hS => ?_)
  obtain ⟨hP, hD⟩ := va_join (wr := ([(o2, .inl (k 6, 1, .inr (.inr (.inr (.inl g2)))))] ++ (fz_WM k q2 f2 pa2 v2))) (w1 := ([(o, .inl (k 5, 1, .inr (.inl u_1)))])) hP hD [0, 1, 2, 3, 4, 5, 6, 7, 8, 9, 10, 11, 12, 13, 14, 15, 16, 17, 18, 19, 20, 21, 22, 23, 24, 25, 26, 27, 28, 29, 30, 31, 32, 33, 34, 35, 36, 37, 38] [39, 40, 41, 42, 43, 44, 45, 46, 47] rfl rfl (by decide) (by decide) hk1 hFc hP1 (fz_Dsame (hDc.sub (ws' := [(o, .inl (k 5, 1, .inr (.inl g)))]) [38] (by decide) rfl) rfl)
  have hP : va_P D vwCl ([(o2, .inl (k 6, 1, .inr (.inr (.inr (.inl g2)))))] ++ (fz_WM k q2 f2 pa2 v2 ++ ([(o, .inl (k 5, 1, .inr (.inl u_1)))]))) H := hP
  have hD : va_D (fun q : Nat => s.heap.size ≤ q) ([(o2, .inl (k 6, 1, .inr (.inr (.inr (.inl g2)))))] ++ (fz_WM k q2 f2 pa2 v2 ++ ([(o, .inl (k 5, 1, .inr (.inl u_1)))]))) := hD
  rcases hw with ⟨rfl, hc_1⟩ | ⟨rfl, hc_1⟩
  · skip
    refine lv_istore (lv' := [(6, .int 1), (5, .int 0), (4, .ref o2), (3, .ref o), (2, .ref (q2 0)), (1, .ref (q 31)), (0, .ref b)]) hx hb dL_law_1667 hl (by decide) rfl (fun ls hl => ?_)
    refine lv_aload_n hx hb dL_law_1669 rfl (lv_at hl 4 rfl) ?_
    refine lv_aload_n hx hb dL_law_1670 rfl (lv_at hl 6 rfl) ?_
    refine lv_iload hx hb dL_law_1671 (lv_at hl 1 rfl) ?_
    refine lv_iconst (v := 1) hx hb dL_law_1673 (by decide) ?_
    refine lv_iadd hx hb dL_law_1674 ?_
    refine fz_I (y := 1) (by decide) ?_
    refine va_sld hx hb hX hbl hbA hS (fz_vin (by decide)) dL_law_1675 ?_
    refine fz_I (y := x1) ex1.symm ?_
    refine lv_aload_n hx hb dL_law_1676 rfl (lv_at hl 6 rfl) ?_
    refine lv_iload hx hb dL_law_1677 (lv_at hl 1 rfl) ?_
    refine lv_iconst (v := 2) hx hb dL_law_1679 (by decide) ?_
    refine lv_iadd hx hb dL_law_1680 ?_
    refine fz_I (y := 2) (by decide) ?_
    refine va_sld hx hb hX hbl hbA hS (fz_vin (by decide)) dL_law_1681 ?_
    refine fz_I (y := x2) ex2.symm ?_
    refine lv_aload_n hx hb dL_law_1682 rfl (lv_at hl 6 rfl) ?_
    refine lv_iload hx hb dL_law_1683 (lv_at hl 1 rfl) ?_
    refine lv_iconst (v := 3) hx hb dL_law_1685 (by decide) ?_
    refine lv_iadd hx hb dL_law_1686 ?_
    refine fz_I (y := 3) (by decide) ?_
    refine va_sld hx hb hX hbl hbA hS (fz_vin (by decide)) dL_law_1687 ?_
    refine fz_I (y := x3) ex3.symm ?_
    have hPc := hP.sub (ws' := (fz_WM k q2 f2 pa2 v2)) [1, 2, 3, 4, 5, 6, 7, 8] rfl
    have hDc : va_D (va_A (fz_WM k q2 f2 pa2 v2) H.size) (fz_WM k q2 f2 pa2 v2) := (hD.sub (ws' := (fz_WM k q2 f2 pa2 v2)) [1, 2, 3, 4, 5, 6, 7, 8] (by decide) rfl).self
    have hFc := va_free (wc := (fz_WM k q2 f2 pa2 v2)) hD hS hA [1, 2, 3, 4, 5, 6, 7, 8] rfl
    refine fz_cVi (As := [.int x1, .int x2, .int x3]) (rest := []) S0 (m_p_request l (va_A (fz_WM k q2 f2 pa2 v2) H.size) D k q2 f2 pa2 v2 x1 x2 x3 n_f_1_0 n_f_1_7 n_f_1_10) (fz_cwV (C := RX10) 3 hts9 fm_943 fm_944 fm_945 fm_946 fm_469 rfl rfl ⟨by decide, by decide, by decide +kernel⟩ ⟨Nat.le_of_ble_eq_true rfl, Nat.le_of_ble_eq_true rfl⟩) (va_recv hK hPc (ci := 14) (q0 := 0) rfl rfl) hFc (fun a9 h9 => Or.inr h9) hG hS hPc hK hDc rfl hl.1 rfl (Nat.le_of_ble_eq_true rfl) dL_law_1688 ⟨Nat.le_of_ble_eq_true rfl, Nat.le_of_ble_eq_true rfl⟩ (fun r_2 u_2 H locs hw hz1 hk1 hP1 hS => ?_)
    obtain ⟨hP, hD⟩ := va_join (wr := ([(o2, .inl (k 6, 1, .inr (.inr (.inr (.inl g2)))))] ++ ([(o, .inl (k 5, 1, .inr (.inl u_1)))]))) (w1 := (fz_MO q2 u_2)) hP hD [1, 2, 3, 4, 5, 6, 7, 8] [0, 9] rfl rfl (by decide) (by decide) hk1 hFc hP1 (fz_Dsame (hDc.sub (ws' := fz_MO q2 v2) [0] (by decide) rfl) rfl)
    have hP : va_P D vwCl ([(o2, .inl (k 6, 1, .inr (.inr (.inr (.inl g2)))))] ++ ([(o, .inl (k 5, 1, .inr (.inl u_1)))] ++ (fz_MO q2 u_2))) H := hP
    have hD : va_D (fun q : Nat => s.heap.size ≤ q) ([(o2, .inl (k 6, 1, .inr (.inr (.inr (.inl g2)))))] ++ ([(o, .inl (k 5, 1, .inr (.inl u_1)))] ++ (fz_MO q2 u_2))) := hD
    rcases hw with ⟨rfl, ht_2, hc_2⟩ | ⟨rfl, ht_2, hc_2⟩
    · skip
      refine lv_istore (lv' := [(7, .int 0), (6, .int 1), (5, .int 0), (4, .ref o2), (3, .ref o), (2, .ref (q2 0)), (1, .ref (q 31)), (0, .ref b)]) hx hb dL_law_1691 hl (by decide) rfl (fun ls hl => ?_)
      refine lv_aload_n hx hb dL_law_1693 rfl (lv_at hl 5 rfl) ?_
      have hPc := hP.sub (ws' := (fz_MO q2 u_2)) [2] rfl
      have hDc : va_D (va_A (fz_MO q2 u_2) H.size) (fz_MO q2 u_2) := (hD.sub (ws' := (fz_MO q2 u_2)) [2] (by decide) rfl).self
      have hFc := va_free (wc := (fz_MO q2 u_2)) hD hS hA [2] rfl
      refine fz_cVi (As := []) (rest := []) S0 (m_thrown l (va_A (fz_MO q2 u_2) H.size) D k q2 u_2) (fz_cwV (C := RX10) 0 hts9 fm_823 fm_824 fm_825 fm_826 fm_469 rfl rfl ⟨by decide, by decide, by decide +kernel⟩ ⟨Nat.le_of_ble_eq_true rfl, Nat.le_of_ble_eq_true rfl⟩) (va_recv hK hPc (ci := 14) (q0 := 0) rfl rfl) hFc (fun a9 h9 => Or.inr h9) hG hS hPc hK hDc rfl hl.1 rfl (Nat.le_of_ble_eq_true rfl) dL_law_1694 ⟨Nat.le_of_ble_eq_true rfl, Nat.le_of_ble_eq_true rfl⟩ (fun r_3 u_3 H locs hw hz1 hk1 hP1 hS => ?_)
      obtain ⟨hP, hD⟩ := va_join (wr := ([(o2, .inl (k 6, 1, .inr (.inr (.inr (.inl g2)))))] ++ ([(o, .inl (k 5, 1, .inr (.inl u_1)))]))) (w1 := (fz_MO q2 u_2)) hP hD [2] [0, 1] rfl rfl (by decide) (by decide) hk1 hFc hP1 hDc
      have hP : va_P D vwCl ([(o2, .inl (k 6, 1, .inr (.inr (.inr (.inl g2)))))] ++ ([(o, .inl (k 5, 1, .inr (.inl u_1)))] ++ (fz_MO q2 u_2))) H := hP
      have hD : va_D (fun q : Nat => s.heap.size ≤ q) ([(o2, .inl (k 6, 1, .inr (.inr (.inr (.inl g2)))))] ++ ([(o, .inl (k 5, 1, .inr (.inl u_1)))] ++ (fz_MO q2 u_2))) := hD
      obtain rfl : r_3 = u_2 0 := hw
      refine fz_I (y := 1) ht_2 ?_
      refine lv_iload hx hb dL_law_1697 (lv_at hl 1 rfl) ?_
      refine lv_icmp_eq (tgt := 1704) hx hb dL_law_1699 (by decide) (fun c9 => ?_) (fun c9 => absurd (by decide) c9)
      refine lv_iload hx hb dL_law_1704 (lv_at hl 1 rfl) ?_
      refine lv_if_ne (tgt := 1721) hx hb dL_law_1706 (by decide) (fun c9 => ?_) (fun c9 => absurd c9 (by decide))
      refine lv_goto (tgt := 2457) hx hb dL_law_1721 (by decide) ?_
      exact lw_tail hL C0 (Nat.le_of_ble_eq_true rfl) (Nat.le_of_ble_eq_true rfl) hS ls (lv_sub hl [2, 7] rfl)
    · skip
      exact (fq_241 x1 x2 hc_1 hc_2).elim
  · skip
    obtain rfl : x2 = 0 := (fq_242 x1 x2 hc_1)
    refine lv_istore (lv' := [(6, .int 2), (5, .int 0), (4, .ref o2), (3, .ref o), (2, .ref (q2 0)), (1, .ref (q 31)), (0, .ref b)]) hx hb dL_law_1667 hl (by decide) rfl (fun ls hl => ?_)
    refine lv_aload_n hx hb dL_law_1669 rfl (lv_at hl 4 rfl) ?_
    refine lv_aload_n hx hb dL_law_1670 rfl (lv_at hl 6 rfl) ?_
    refine lv_iload hx hb dL_law_1671 (lv_at hl 1 rfl) ?_
    refine lv_iconst (v := 1) hx hb dL_law_1673 (by decide) ?_
    refine lv_iadd hx hb dL_law_1674 ?_
    refine fz_I (y := 1) (by decide) ?_
    refine va_sld hx hb hX hbl hbA hS (fz_vin (by decide)) dL_law_1675 ?_
    refine fz_I (y := x1) ex1.symm ?_
    refine lv_aload_n hx hb dL_law_1676 rfl (lv_at hl 6 rfl) ?_
    refine lv_iload hx hb dL_law_1677 (lv_at hl 1 rfl) ?_
    refine lv_iconst (v := 2) hx hb dL_law_1679 (by decide) ?_
    refine lv_iadd hx hb dL_law_1680 ?_
    refine fz_I (y := 2) (by decide) ?_
    refine va_sld hx hb hX hbl hbA hS (fz_vin (by decide)) dL_law_1681 ?_
    refine fz_I (y := 0) ex2.symm ?_
    refine lv_aload_n hx hb dL_law_1682 rfl (lv_at hl 6 rfl) ?_
    refine lv_iload hx hb dL_law_1683 (lv_at hl 1 rfl) ?_
    refine lv_iconst (v := 3) hx hb dL_law_1685 (by decide) ?_
    refine lv_iadd hx hb dL_law_1686 ?_
    refine fz_I (y := 3) (by decide) ?_
    refine va_sld hx hb hX hbl hbA hS (fz_vin (by decide)) dL_law_1687 ?_
    refine fz_I (y := x3) ex3.symm ?_
    have hPc := hP.sub (ws' := (fz_WM k q2 f2 pa2 v2)) [1, 2, 3, 4, 5, 6, 7, 8] rfl
    have hDc : va_D (va_A (fz_WM k q2 f2 pa2 v2) H.size) (fz_WM k q2 f2 pa2 v2) := (hD.sub (ws' := (fz_WM k q2 f2 pa2 v2)) [1, 2, 3, 4, 5, 6, 7, 8] (by decide) rfl).self
    have hFc := va_free (wc := (fz_WM k q2 f2 pa2 v2)) hD hS hA [1, 2, 3, 4, 5, 6, 7, 8] rfl
    refine fz_cVi (As := [.int x1, .int 0, .int x3]) (rest := []) S0 (m_p_request l (va_A (fz_WM k q2 f2 pa2 v2) H.size) D k q2 f2 pa2 v2 x1 0 x3 n_f_1_0 n_f_1_7 n_f_1_10) (fz_cwV (C := RX10) 3 hts9 fm_943 fm_944 fm_945 fm_946 fm_469 rfl rfl ⟨by decide, by decide, by decide +kernel⟩ ⟨Nat.le_of_ble_eq_true rfl, Nat.le_of_ble_eq_true rfl⟩) (va_recv hK hPc (ci := 14) (q0 := 0) rfl rfl) hFc (fun a9 h9 => Or.inr h9) hG hS hPc hK hDc rfl hl.1 rfl (Nat.le_of_ble_eq_true rfl) dL_law_1688 ⟨Nat.le_of_ble_eq_true rfl, Nat.le_of_ble_eq_true rfl⟩ (fun r_2 u_2 H locs hw hz1 hk1 hP1 hS => ?_)
    obtain ⟨hP, hD⟩ := va_join (wr := ([(o2, .inl (k 6, 1, .inr (.inr (.inr (.inl g2)))))] ++ ([(o, .inl (k 5, 1, .inr (.inl u_1)))]))) (w1 := (fz_MO q2 u_2)) hP hD [1, 2, 3, 4, 5, 6, 7, 8] [0, 9] rfl rfl (by decide) (by decide) hk1 hFc hP1 (fz_Dsame (hDc.sub (ws' := fz_MO q2 v2) [0] (by decide) rfl) rfl)
    have hP : va_P D vwCl ([(o2, .inl (k 6, 1, .inr (.inr (.inr (.inl g2)))))] ++ ([(o, .inl (k 5, 1, .inr (.inl u_1)))] ++ (fz_MO q2 u_2))) H := hP
    have hD : va_D (fun q : Nat => s.heap.size ≤ q) ([(o2, .inl (k 6, 1, .inr (.inr (.inr (.inl g2)))))] ++ ([(o, .inl (k 5, 1, .inr (.inl u_1)))] ++ (fz_MO q2 u_2))) := hD
    rcases hw with ⟨rfl, ht_2, hc_2⟩ | ⟨rfl, ht_2, hc_2⟩
    · skip
      exact (fq_243 x1 hc_1 hc_2).elim
    · skip
      refine lv_istore (lv' := [(7, .int 0), (6, .int 2), (5, .int 0), (4, .ref o2), (3, .ref o), (2, .ref (q2 0)), (1, .ref (q 31)), (0, .ref b)]) hx hb dL_law_1691 hl (by decide) rfl (fun ls hl => ?_)
      refine lv_aload_n hx hb dL_law_1693 rfl (lv_at hl 5 rfl) ?_
      have hPc := hP.sub (ws' := (fz_MO q2 u_2)) [2] rfl
      have hDc : va_D (va_A (fz_MO q2 u_2) H.size) (fz_MO q2 u_2) := (hD.sub (ws' := (fz_MO q2 u_2)) [2] (by decide) rfl).self
      have hFc := va_free (wc := (fz_MO q2 u_2)) hD hS hA [2] rfl
      refine fz_cVi (As := []) (rest := []) S0 (m_thrown l (va_A (fz_MO q2 u_2) H.size) D k q2 u_2) (fz_cwV (C := RX10) 0 hts9 fm_823 fm_824 fm_825 fm_826 fm_469 rfl rfl ⟨by decide, by decide, by decide +kernel⟩ ⟨Nat.le_of_ble_eq_true rfl, Nat.le_of_ble_eq_true rfl⟩) (va_recv hK hPc (ci := 14) (q0 := 0) rfl rfl) hFc (fun a9 h9 => Or.inr h9) hG hS hPc hK hDc rfl hl.1 rfl (Nat.le_of_ble_eq_true rfl) dL_law_1694 ⟨Nat.le_of_ble_eq_true rfl, Nat.le_of_ble_eq_true rfl⟩ (fun r_3 u_3 H locs hw hz1 hk1 hP1 hS => ?_)
      obtain ⟨hP, hD⟩ := va_join (wr := ([(o2, .inl (k 6, 1, .inr (.inr (.inr (.inl g2)))))] ++ ([(o, .inl (k 5, 1, .inr (.inl u_1)))]))) (w1 := (fz_MO q2 u_2)) hP hD [2] [0, 1] rfl rfl (by decide) (by decide) hk1 hFc hP1 hDc
      have hP : va_P D vwCl ([(o2, .inl (k 6, 1, .inr (.inr (.inr (.inl g2)))))] ++ ([(o, .inl (k 5, 1, .inr (.inl u_1)))] ++ (fz_MO q2 u_2))) H := hP
      have hD : va_D (fun q : Nat => s.heap.size ≤ q) ([(o2, .inl (k 6, 1, .inr (.inr (.inr (.inl g2)))))] ++ ([(o, .inl (k 5, 1, .inr (.inl u_1)))] ++ (fz_MO q2 u_2))) := hD
      obtain rfl : r_3 = u_2 0 := hw
      refine fz_I (y := 2) ht_2 ?_
      refine lv_iload hx hb dL_law_1697 (lv_at hl 1 rfl) ?_
      refine lv_icmp_eq (tgt := 1704) hx hb dL_law_1699 (by decide) (fun c9 => ?_) (fun c9 => absurd (by decide) c9)
      refine lv_iload hx hb dL_law_1704 (lv_at hl 1 rfl) ?_
      refine lv_if_ne (tgt := 1721) hx hb dL_law_1706 (by decide) (fun c9 => ?_) (fun c9 => absurd c9 (by decide))
      refine lv_goto (tgt := 2457) hx hb dL_law_1721 (by decide) ?_
      exact lw_tail hL C0 (Nat.le_of_ble_eq_true rfl) (Nat.le_of_ble_eq_true rfl) hS ls (lv_sub hl [2, 7] rfl)

set_option maxHeartbeats 8000000 in
set_option maxRecDepth 100000 in
theorem lw_case22 {p : Program} {l : Launch} {e : Env} {s : State} {m : MethodId} {below : List Frame} {meth : Method} {c : Code} {D : va_G} {b L : Nat} {xs : Nat → Int32} (hl0 : l.stackTraces = false) (hL : L = 6) (C0 : lw_At p s m meth c b L xs) (hG : fz_GS (fun q : Nat => s.heap.size ≤ q) s) (k : Nat → ClassId) (hK : va_K D vwCl (fz_tys k) s) (q q2 : Nat → Nat) (f f2 : Nat → Nat → Int32) (pa pa2 : Nat → Option Nat) (v v2 : Nat → Int32) (o o2 : Nat) (g : Nat → Int64) (g2 : Nat → UInt64) (hF : fz_LF q2 f pa v f2 pa2 v2) (H : Heap) (locs : List Loc) (hP : va_P D vwCl (fz_WC k q f pa v ++ ([(o, .inl (k 5, 1, .inr (.inl g)))] ++ ([(o2, .inl (k 6, 1, .inr (.inr (.inr (.inl g2)))))] ++ (fz_WM k q2 f2 pa2 v2)))) H) (hD : va_D (fun q : Nat => s.heap.size ≤ q) (fz_WC k q f pa v ++ ([(o, .inl (k 5, 1, .inr (.inl g)))] ++ ([(o2, .inl (k 6, 1, .inr (.inr (.inr (.inl g2)))))] ++ (fz_WM k q2 f2 pa2 v2))))) (hS : va_S (fun q : Nat => s.heap.size ≤ q) s.heap H locs) (ls : Array Slot) (hl : lv_has ls 9 [(5, .int 0), (4, .ref o2), (3, .ref o), (2, .ref (q2 0)), (1, .ref (q 31)), (0, .ref b)]) :
    W p l e room_1 s m #[Value.ref b] below meth c H locs 2000 400000 (lw_Z below #[Value.ref b] s) (F0 m 1724 ls []) := by
  obtain ⟨g_v_0, g_v_1, g_v_2, g_v_3, g_v_4, g_v_5, g_v_6, g_v_7, g_v_8, g_v_9, g_v_10, g_v_11, g_v_12, g_v_13, g_v_14, g_v_15, g_v_17, g_f_2_0, g_f_4_0, g_f_5_0, g_f_6_0, g_f_7_0, g_f_8_0, g_f_9_0, g_f_11_0, g_f_18_0, g_f_19_0, g_pa_0, g_pa_1, g_pa_8, n_v_0, n_v_5, n_v_6, n_v_7, n_v_8, n_v_9, n_v_10, n_v_11, n_v_12, n_v_13, n_v_15, n_v_16, n_v_17, n_v_18, n_v_19, n_v_21, n_f_1_0, n_f_1_1, n_f_1_2, n_f_1_3, n_f_1_4, n_f_1_5, n_f_1_6, n_f_1_7, n_f_1_8, n_f_1_9, n_f_1_10, n_f_1_11, n_f_1_12, n_f_1_13, n_f_1_15, n_f_1_16, n_f_1_17, n_pb_0⟩ := hF
  obtain ⟨hx, hb, hr, hml, hown, hts, hX, hbl, hlocks, hgv⟩ := id C0
  subst hL
  have hL : (6 : Nat) = 6 := rfl
  have hA : ∀ q : Nat, s.heap.size ≤ q → (fun q : Nat => s.heap.size ≤ q) q := fun _ h => h
  have hbA : ¬ (fun q : Nat => s.heap.size ≤ q) b := Nat.not_le.mpr hbl
  have hts9 := fz_hts9 hts
  have hown : s.vm.findClass RL = some m.cls := hown
  have S0 : CallFix p m c code 9 s #[Value.ref b] (Cond.initialized RL :: fz_WA) RL := ⟨hx, hb, hml, hown, hts9⟩
  obtain ⟨x1, ex1⟩ : ∃ z, z = xs 1 := ⟨_, rfl⟩
  obtain ⟨x2, ex2⟩ : ∃ z, z = xs 2 := ⟨_, rfl⟩
  obtain ⟨x3, ex3⟩ : ∃ z, z = xs 3 := ⟨_, rfl⟩
  obtain ⟨x4, ex4⟩ : ∃ z, z = xs 4 := ⟨_, rfl⟩
  obtain ⟨x5, ex5⟩ : ∃ z, z = xs 5 := ⟨_, rfl⟩
  refine lv_aload_n hx hb dL_law_1724 rfl (lv_at hl 4 rfl) ?_
  refine lv_aload_n hx hb dL_law_1725 rfl (lv_at hl 5 rfl) ?_
  refine lv_iload hx hb dL_law_1726 (lv_at hl 0 rfl) ?_
  refine lv_iconst (v := 1) hx hb dL_law_1728 (by decide) ?_
  refine lv_iadd hx hb dL_law_1729 ?_
  refine fz_I (y := 1) (by decide) ?_
  refine va_sld hx hb hX hbl hbA hS (fz_vin (by decide)) dL_law_1730 ?_
  refine fz_I (y := x1) ex1.symm ?_
  refine lv_aload_n hx hb dL_law_1731 rfl (lv_at hl 5 rfl) ?_
  refine lv_iload hx hb dL_law_1732 (lv_at hl 0 rfl) ?_
  refine lv_iconst (v := 2) hx hb dL_law_1734 (by decide) ?_
  refine lv_iadd hx hb dL_law_1735 ?_
  refine fz_I (y := 2) (by decide) ?_
  refine va_sld hx hb hX hbl hbA hS (fz_vin (by decide)) dL_law_1736 ?_
  refine fz_I (y := x2) ex2.symm ?_
  refine lv_aload_n hx hb dL_law_1737 rfl (lv_at hl 2 rfl) ?_
  have hPc := hP.sub (ws' := (fz_WC k q f pa v ++ ([(o, .inl (k 5, 1, .inr (.inl g)))]))) [0, 1, 2, 3, 4, 5, 6, 7, 8, 9, 10, 11, 12, 13, 14, 15, 16, 17, 18, 19, 20, 21, 22, 23, 24, 25, 26, 27, 28, 29, 30, 31, 32, 33, 34, 35, 36, 37, 38] rfl
  have hDc : va_D (va_A (fz_WC k q f pa v ++ ([(o, .inl (k 5, 1, .inr (.inl g)))])) H.size) (fz_WC k q f pa v ++ ([(o, .inl (k 5, 1, .inr (.inl g)))])) := (hD.sub (ws' := (fz_WC k q f pa v ++ ([(o, .inl (k 5, 1, .inr (.inl g)))]))) [0, 1, 2, 3, 4, 5, 6, 7, 8, 9, 10, 11, 12, 13, 14, 15, 16, 17, 18, 19, 20, 21, 22, 23, 24, 25, 26, 27, 28, 29, 30, 31, 32, 33, 34, 35, 36, 37, 38] (by decide) rfl).self
  have hFc := va_free (wc := (fz_WC k q f pa v ++ ([(o, .inl (k 5, 1, .inr (.inl g)))]))) hD hS hA [0, 1, 2, 3, 4, 5, 6, 7, 8, 9, 10, 11, 12, 13, 14, 15, 16, 17, 18, 19, 20, 21, 22, 23, 24, 25, 26, 27, 28, 29, 30, 31, 32, 33, 34, 35, 36, 37, 38] rfl
  refine fz_hSi (As := [.ref (q 31), .int x1, .int x2, .ref o]) (rest := []) S0 (h_requestPart l hl0 (va_A (fz_WC k q f pa v ++ ([(o, .inl (k 5, 1, .inr (.inl g)))])) H.size) D k q f pa v o g x1 x2 g_v_8) (vx_cwSW 4 hts9 (fz_gSW fm_759 fm_947 fm_948 fm_816) rfl rfl rfl ⟨by decide, by decide, by decide +kernel⟩ ⟨Nat.le_of_ble_eq_true rfl, Nat.le_of_ble_eq_true rfl⟩) hFc (fun a9 h9 => Or.inr h9) hG hS hPc hK hDc rfl hl.1 rfl (Nat.le_of_ble_eq_true rfl) dL_law_1738 ⟨Nat.le_of_ble_eq_true rfl, Nat.le_of_ble_eq_true rfl⟩ (fun r_1 u_1 H locs hw hz1 hk1 hP1 hS => ?_)
  obtain ⟨hP, hD⟩ := va_join (wr := ([(o2, .inl (k 6, 1, .inr (.inr (.inr (.inl g2)))))] ++ (fz_WM k q2 f2 pa2 v2))) (w1 := ([(o, .inl (k 5, 1, .inr (.inl u_1)))])) hP hD [0, 1, 2, 3, 4, 5, 6, 7, 8, 9, 10, 11, 12, 13, 14, 15, 16, 17, 18, 19, 20, 21, 22, 23, 24, 25, 26, 27, 28, 29, 30, 31, 32, 33, 34, 35, 36, 37, 38] [39, 40, 41, 42, 43, 44, 45, 46, 47] rfl rfl (by decide) (by decide) hk1 hFc hP1 (fz_Dsame (hDc.sub (ws' := [(o, .inl (k 5, 1, .inr (.inl g)))]) [38] (by decide) rfl) rfl)
  have hP : va_P D vwCl ([(o2, .inl (k 6, 1, .inr (.inr (.inr (.inl g2)))))] ++ (fz_WM k q2 f2 pa2 v2 ++ ([(o, .inl (k 5, 1, .inr (.inl u_1)))]))) H := hP
  have hD : va_D (fun q : Nat => s.heap.size ≤ q) ([(o2, .inl (k 6, 1, .inr (.inr (.inr (.inl g2)))))] ++ (fz_WM k q2 f2 pa2 v2 ++ ([(o, .inl (k 5, 1, .inr (.inl u_1)))]))) := hD
  rcases hw with ⟨rfl, hc_1⟩
  · skip
    refine lv_istore (lv' := [(6, .int 1), (5, .int 0), (4, .ref o2), (3, .ref o), (2, .ref (q2 0)), (1, .ref (q 31)), (0, .ref b)]) hx hb dL_law_1741 hl (by decide) rfl (fun ls hl => ?_)
    refine lv_aload_n hx hb dL_law_1743 rfl (lv_at hl 4 rfl) ?_
    refine lv_aload_n hx hb dL_law_1744 rfl (lv_at hl 6 rfl) ?_
    refine lv_iload hx hb dL_law_1745 (lv_at hl 1 rfl) ?_
    refine lv_iconst (v := 1) hx hb dL_law_1747 (by decide) ?_
    refine lv_iadd hx hb dL_law_1748 ?_
    refine fz_I (y := 1) (by decide) ?_
    refine va_sld hx hb hX hbl hbA hS (fz_vin (by decide)) dL_law_1749 ?_
    refine fz_I (y := x1) ex1.symm ?_
    refine lv_aload_n hx hb dL_law_1750 rfl (lv_at hl 6 rfl) ?_
    refine lv_iload hx hb dL_law_1751 (lv_at hl 1 rfl) ?_
    refine lv_iconst (v := 2) hx hb dL_law_1753 (by decide) ?_
    refine lv_iadd hx hb dL_law_1754 ?_
    refine fz_I (y := 2) (by decide) ?_
    refine va_sld hx hb hX hbl hbA hS (fz_vin (by decide)) dL_law_1755 ?_
    refine fz_I (y := x2) ex2.symm ?_
    have hPc := hP.sub (ws' := (fz_WM k q2 f2 pa2 v2)) [1, 2, 3, 4, 5, 6, 7, 8] rfl
    have hDc : va_D (va_A (fz_WM k q2 f2 pa2 v2) H.size) (fz_WM k q2 f2 pa2 v2) := (hD.sub (ws' := (fz_WM k q2 f2 pa2 v2)) [1, 2, 3, 4, 5, 6, 7, 8] (by decide) rfl).self
    have hFc := va_free (wc := (fz_WM k q2 f2 pa2 v2)) hD hS hA [1, 2, 3, 4, 5, 6, 7, 8] rfl
    refine fz_cVi (As := [.int x1, .int x2]) (rest := []) S0 (m_p_requestPart l (va_A (fz_WM k q2 f2 pa2 v2) H.size) D k q2 f2 pa2 v2 x1 x2 n_f_1_4) (fz_cwV (C := RX10) 2 hts9 fm_949 fm_950 fm_951 fm_952 fm_469 rfl rfl ⟨by decide, by decide, by decide +kernel⟩ ⟨Nat.le_of_ble_eq_true rfl, Nat.le_of_ble_eq_true rfl⟩) (va_recv hK hPc (ci := 14) (q0 := 0) rfl rfl) hFc (fun a9 h9 => Or.inr h9) hG hS hPc hK hDc rfl hl.1 rfl (Nat.le_of_ble_eq_true rfl) dL_law_1756 ⟨Nat.le_of_ble_eq_true rfl, Nat.le_of_ble_eq_true rfl⟩ (fun r_2 u_2 H locs hw hz1 hk1 hP1 hS => ?_)
    obtain ⟨hP, hD⟩ := va_join (wr := ([(o2, .inl (k 6, 1, .inr (.inr (.inr (.inl g2)))))] ++ ([(o, .inl (k 5, 1, .inr (.inl u_1)))]))) (w1 := (fz_MO q2 u_2)) hP hD [1, 2, 3, 4, 5, 6, 7, 8] [0, 9] rfl rfl (by decide) (by decide) hk1 hFc hP1 (fz_Dsame (hDc.sub (ws' := fz_MO q2 v2) [0] (by decide) rfl) rfl)
    have hP : va_P D vwCl ([(o2, .inl (k 6, 1, .inr (.inr (.inr (.inl g2)))))] ++ ([(o, .inl (k 5, 1, .inr (.inl u_1)))] ++ (fz_MO q2 u_2))) H := hP
    have hD : va_D (fun q : Nat => s.heap.size ≤ q) ([(o2, .inl (k 6, 1, .inr (.inr (.inr (.inl g2)))))] ++ ([(o, .inl (k 5, 1, .inr (.inl u_1)))] ++ (fz_MO q2 u_2))) := hD
    rcases hw with ⟨rfl, ht_2, hc_2⟩
    · skip
      refine lv_istore (lv' := [(7, .int 0), (6, .int 1), (5, .int 0), (4, .ref o2), (3, .ref o), (2, .ref (q2 0)), (1, .ref (q 31)), (0, .ref b)]) hx hb dL_law_1759 hl (by decide) rfl (fun ls hl => ?_)
      refine lv_aload_n hx hb dL_law_1761 rfl (lv_at hl 5 rfl) ?_
      have hPc := hP.sub (ws' := (fz_MO q2 u_2)) [2] rfl
      have hDc : va_D (va_A (fz_MO q2 u_2) H.size) (fz_MO q2 u_2) := (hD.sub (ws' := (fz_MO q2 u_2)) [2] (by decide) rfl).self
      have hFc := va_free (wc := (fz_MO q2 u_2)) hD hS hA [2] rfl
      refine fz_cVi (As := []) (rest := []) S0 (m_thrown l (va_A (fz_MO q2 u_2) H.size) D k q2 u_2) (fz_cwV (C := RX10) 0 hts9 fm_823 fm_824 fm_825 fm_826 fm_469 rfl rfl ⟨by decide, by decide, by decide +kernel⟩ ⟨Nat.le_of_ble_eq_true rfl, Nat.le_of_ble_eq_true rfl⟩) (va_recv hK hPc (ci := 14) (q0 := 0) rfl rfl) hFc (fun a9 h9 => Or.inr h9) hG hS hPc hK hDc rfl hl.1 rfl (Nat.le_of_ble_eq_true rfl) dL_law_1762 ⟨Nat.le_of_ble_eq_true rfl, Nat.le_of_ble_eq_true rfl⟩ (fun r_3 u_3 H locs hw hz1 hk1 hP1 hS => ?_)
      obtain ⟨hP, hD⟩ := va_join (wr := ([(o2, .inl (k 6, 1, .inr (.inr (.inr (.inl g2)))))] ++ ([(o, .inl (k 5, 1, .inr (.inl u_1)))]))) (w1 := (fz_MO q2 u_2)) hP hD [2] [0, 1] rfl rfl (by decide) (by decide) hk1 hFc hP1 hDc
      have hP : va_P D vwCl ([(o2, .inl (k 6, 1, .inr (.inr (.inr (.inl g2)))))] ++ ([(o, .inl (k 5, 1, .inr (.inl u_1)))] ++ (fz_MO q2 u_2))) H := hP
      have hD : va_D (fun q : Nat => s.heap.size ≤ q) ([(o2, .inl (k 6, 1, .inr (.inr (.inr (.inl g2)))))] ++ ([(o, .inl (k 5, 1, .inr (.inl u_1)))] ++ (fz_MO q2 u_2))) := hD
      obtain rfl : r_3 = u_2 0 := hw
      refine fz_I (y := 1) ht_2 ?_
      refine lv_iload hx hb dL_law_1765 (lv_at hl 1 rfl) ?_
      refine lv_icmp_eq (tgt := 1772) hx hb dL_law_1767 (by decide) (fun c9 => ?_) (fun c9 => absurd (by decide) c9)
      refine lv_iload hx hb dL_law_1772 (lv_at hl 1 rfl) ?_
      refine lv_if_ne (tgt := 1789) hx hb dL_law_1774 (by decide) (fun c9 => ?_) (fun c9 => absurd c9 (by decide))
      refine lv_goto (tgt := 2457) hx hb dL_law_1789 (by decide) ?_
      exact lw_tail hL C0 (Nat.le_of_ble_eq_true rfl) (Nat.le_of_ble_eq_true rfl) hS ls (lv_sub hl [2, 7] rfl)

set_option maxHeartbeats 8000000 in
set_option maxRecDepth 100000 in
theorem lw_case23 {p : Program} {l : Launch} {e : Env} {s : State} {m : MethodId} {below : List Frame} {meth : Method} {c : Code} {D : va_G} {b L : Nat} {xs : Nat → Int32} (hl0 : l.stackTraces = false) (hL : L = 6) (C0 : lw_At p s m meth c b L xs) (hG : fz_GS (fun q : Nat => s.heap.size ≤ q) s) (k : Nat → ClassId) (hK : va_K D vwCl (fz_tys k) s) (q q2 : Nat → Nat) (f f2 : Nat → Nat → Int32) (pa pa2 : Nat → Option Nat) (v v2 : Nat → Int32) (o o2 : Nat) (g : Nat → Int64) (g2 : Nat → UInt64) (hF : fz_LF q2 f pa v f2 pa2 v2) (H : Heap) (locs : List Loc) (hP : va_P D vwCl (fz_WC k q f pa v ++ ([(o, .inl (k 5, 1, .inr (.inl g)))] ++ ([(o2, .inl (k 6, 1, .inr (.inr (.inr (.inl g2)))))] ++ (fz_WM k q2 f2 pa2 v2)))) H) (hD : va_D (fun q : Nat => s.heap.size ≤ q) (fz_WC k q f pa v ++ ([(o, .inl (k 5, 1, .inr (.inl g)))] ++ ([(o2, .inl (k 6, 1, .inr (.inr (.inr (.inl g2)))))] ++ (fz_WM k q2 f2 pa2 v2))))) (hS : va_S (fun q : Nat => s.heap.size ≤ q) s.heap H locs) (ls : Array Slot) (hl : lv_has ls 9 [(5, .int 0), (4, .ref o2), (3, .ref o), (2, .ref (q2 0)), (1, .ref (q 31)), (0, .ref b)]) :
    W p l e room_1 s m #[Value.ref b] below meth c H locs 2000 400000 (lw_Z below #[Value.ref b] s) (F0 m 1792 ls []) := by
  obtain ⟨g_v_0, g_v_1, g_v_2, g_v_3, g_v_4, g_v_5, g_v_6, g_v_7, g_v_8, g_v_9, g_v_10, g_v_11, g_v_12, g_v_13, g_v_14, g_v_15, g_v_17, g_f_2_0, g_f_4_0, g_f_5_0, g_f_6_0, g_f_7_0, g_f_8_0, g_f_9_0, g_f_11_0, g_f_18_0, g_f_19_0, g_pa_0, g_pa_1, g_pa_8, n_v_0, n_v_5, n_v_6, n_v_7, n_v_8, n_v_9, n_v_10, n_v_11, n_v_12, n_v_13, n_v_15, n_v_16, n_v_17, n_v_18, n_v_19, n_v_21, n_f_1_0, n_f_1_1, n_f_1_2, n_f_1_3, n_f_1_4, n_f_1_5, n_f_1_6, n_f_1_7, n_f_1_8, n_f_1_9, n_f_1_10, n_f_1_11, n_f_1_12, n_f_1_13, n_f_1_15, n_f_1_16, n_f_1_17, n_pb_0⟩ := hF
  obtain ⟨hx, hb, hr, hml, hown, hts, hX, hbl, hlocks, hgv⟩ := id C0
  subst hL
  have hL : (6 : Nat) = 6 := rfl
  have hA : ∀ q : Nat, s.heap.size ≤ q → (fun q : Nat => s.heap.size ≤ q) q := fun _ h => h
  have hbA : ¬ (fun q : Nat => s.heap.size ≤ q) b := Nat.not_le.mpr hbl
  have hts9 := fz_hts9 hts
  have hown : s.vm.findClass RL = some m.cls := hown
  have S0 : CallFix p m c code 9 s #[Value.ref b] (Cond.initialized RL :: fz_WA) RL := ⟨hx, hb, hml, hown, hts9⟩
  obtain ⟨x1, ex1⟩ : ∃ z, z = xs 1 := ⟨_, rfl⟩
  obtain ⟨x2, ex2⟩ : ∃ z, z = xs 2 := ⟨_, rfl⟩
  obtain ⟨x3, ex3⟩ : ∃ z, z = xs 3 := ⟨_, rfl⟩
  obtain ⟨x4, ex4⟩ : ∃ z, z = xs 4 := ⟨_, rfl⟩
  obtain ⟨x5, ex5⟩ : ∃ z, z = xs 5 := ⟨_, rfl⟩
  refine lv_aload_n hx hb dL_law_1792 rfl (lv_at hl 4 rfl) ?_
  refine lv_aload_n hx hb dL_law_1793 rfl (lv_at hl 5 rfl) ?_
  refine lv_iload hx hb dL_law_1794 (lv_at hl 0 rfl) ?_
  refine lv_iconst (v := 1) hx hb dL_law_1796 (by decide) ?_
  refine lv_iadd hx hb dL_law_1797 ?_
  refine fz_I (y := 1) (by decide) ?_
  refine va_sld hx hb hX hbl hbA hS (fz_vin (by decide)) dL_law_1798 ?_
  refine fz_I (y := x1) ex1.symm ?_
  refine lv_aload_n hx hb dL_law_1799 rfl (lv_at hl 2 rfl) ?_
  have hPc := hP.sub (ws' := (fz_WC k q f pa v ++ ([(o, .inl (k 5, 1, .inr (.inl g)))]))) [0, 1, 2, 3, 4, 5, 6, 7, 8, 9, 10, 11, 12, 13, 14, 15, 16, 17, 18, 19, 20, 21, 22, 23, 24, 25, 26, 27, 28, 29, 30, 31, 32, 33, 34, 35, 36, 37, 38] rfl
  have hDc : va_D (va_A (fz_WC k q f pa v ++ ([(o, .inl (k 5, 1, .inr (.inl g)))])) H.size) (fz_WC k q f pa v ++ ([(o, .inl (k 5, 1, .inr (.inl g)))])) := (hD.sub (ws' := (fz_WC k q f pa v ++ ([(o, .inl (k 5, 1, .inr (.inl g)))]))) [0, 1, 2, 3, 4, 5, 6, 7, 8, 9, 10, 11, 12, 13, 14, 15, 16, 17, 18, 19, 20, 21, 22, 23, 24, 25, 26, 27, 28, 29, 30, 31, 32, 33, 34, 35, 36, 37, 38] (by decide) rfl).self
  have hFc := va_free (wc := (fz_WC k q f pa v ++ ([(o, .inl (k 5, 1, .inr (.inl g)))]))) hD hS hA [0, 1, 2, 3, 4, 5, 6, 7, 8, 9, 10, 11, 12, 13, 14, 15, 16, 17, 18, 19, 20, 21, 22, 23, 24, 25, 26, 27, 28, 29, 30, 31, 32, 33, 34, 35, 36, 37, 38] rfl
  refine fz_hSi (As := [.ref (q 31), .int x1, .ref o]) (rest := []) S0 (h_cancel l hl0 (va_A (fz_WC k q f pa v ++ ([(o, .inl (k 5, 1, .inr (.inl g)))])) H.size) D k q f pa v o g x1 g_v_8) (vx_cwSW 3 hts9 (fz_gSW fm_764 fm_953 fm_954 fm_816) rfl rfl rfl ⟨by decide, by decide, by decide +kernel⟩ ⟨Nat.le_of_ble_eq_true rfl, Nat.le_of_ble_eq_true rfl⟩) hFc (fun a9 h9 => Or.inr h9) hG hS hPc hK hDc rfl hl.1 rfl (Nat.le_of_ble_eq_true rfl) dL_law_1800 ⟨Nat.le_of_ble_eq_true rfl, Nat.le_of_ble_eq_true rfl⟩ (fun r_1 u_1 H locs hw hz1 hk1 hP1 hS => ?_)
  obtain ⟨hP, hD⟩ := va_join (wr := ([(o2, .inl (k 6, 1, .inr (.inr (.inr (.inl g2)))))] ++ (fz_WM k q2 f2 pa2 v2))) (w1 := ([(o, .inl (k 5, 1, .inr (.inl u_1)))])) hP hD [0, 1, 2, 3, 4, 5, 6, 7, 8, 9, 10, 11, 12, 13, 14, 15, 16, 17, 18, 19, 20, 21, 22, 23, 24, 25, 26, 27, 28, 29, 30, 31, 32, 33, 34, 35, 36, 37, 38] [39, 40, 41, 42, 43, 44, 45, 46, 47] rfl rfl (by decide) (by decide) hk1 hFc hP1 (fz_Dsame (hDc.sub (ws' := [(o, .inl (k 5, 1, .inr (.inl g)))]) [38] (by decide) rfl) rfl)
  have hP : va_P D vwCl ([(o2, .inl (k 6, 1, .inr (.inr (.inr (.inl g2)))))] ++ (fz_WM k q2 f2 pa2 v2 ++ ([(o, .inl (k 5, 1, .inr (.inl u_1)))]))) H := hP
  have hD : va_D (fun q : Nat => s.heap.size ≤ q) ([(o2, .inl (k 6, 1, .inr (.inr (.inr (.inl g2)))))] ++ (fz_WM k q2 f2 pa2 v2 ++ ([(o, .inl (k 5, 1, .inr (.inl u_1)))]))) := hD
  rcases hw with ⟨rfl, hc_1⟩
  · skip
    refine lv_istore (lv' := [(6, .int 1), (5, .int 0), (4, .ref o2), (3, .ref o), (2, .ref (q2 0)), (1, .ref (q 31)), (0, .ref b)]) hx hb dL_law_1803 hl (by decide) rfl (fun ls hl => ?_)
    refine lv_aload_n hx hb dL_law_1805 rfl (lv_at hl 4 rfl) ?_
    refine lv_aload_n hx hb dL_law_1806 rfl (lv_at hl 6 rfl) ?_
    refine lv_iload hx hb dL_law_1807 (lv_at hl 1 rfl) ?_
    refine lv_iconst (v := 1) hx hb dL_law_1809 (by decide) ?_
    refine lv_iadd hx hb dL_law_1810 ?_
    refine fz_I (y := 1) (by decide) ?_
    refine va_sld hx hb hX hbl hbA hS (fz_vin (by decide)) dL_law_1811 ?_
    refine fz_I (y := x1) ex1.symm ?_
    have hPc := hP.sub (ws' := (fz_WM k q2 f2 pa2 v2)) [1, 2, 3, 4, 5, 6, 7, 8] rfl
    have hDc : va_D (va_A (fz_WM k q2 f2 pa2 v2) H.size) (fz_WM k q2 f2 pa2 v2) := (hD.sub (ws' := (fz_WM k q2 f2 pa2 v2)) [1, 2, 3, 4, 5, 6, 7, 8] (by decide) rfl).self
    have hFc := va_free (wc := (fz_WM k q2 f2 pa2 v2)) hD hS hA [1, 2, 3, 4, 5, 6, 7, 8] rfl
    refine fz_cVi (As := [.int x1]) (rest := []) S0 (m_p_cancel l (va_A (fz_WM k q2 f2 pa2 v2) H.size) D k q2 f2 pa2 v2 x1 n_f_1_4) (fz_cwV (C := RX10) 1 hts9 fm_955 fm_956 fm_957 fm_958 fm_469 rfl rfl ⟨by decide, by decide, by decide +kernel⟩ ⟨Nat.le_of_ble_eq_true rfl, Nat.le_of_ble_eq_true rfl⟩) (va_recv hK hPc (ci := 14) (q0 := 0) rfl rfl) hFc (fun a9 h9 => Or.inr h9) hG hS hPc hK hDc rfl hl.1 rfl (Nat.le_of_ble_eq_true rfl) dL_law_1812 ⟨Nat.le_of_ble_eq_true rfl, Nat.le_of_ble_eq_true rfl⟩ (fun r_2 u_2 H locs hw hz1 hk1 hP1 hS => ?_)
    obtain ⟨hP, hD⟩ := va_join (wr := ([(o2, .inl (k 6, 1, .inr (.inr (.inr (.inl g2)))))] ++ ([(o, .inl (k 5, 1, .inr (.inl u_1)))]))) (w1 := (fz_MO q2 u_2)) hP hD [1, 2, 3, 4, 5, 6, 7, 8] [0, 9] rfl rfl (by decide) (by decide) hk1 hFc hP1 (fz_Dsame (hDc.sub (ws' := fz_MO q2 v2) [0] (by decide) rfl) rfl)
    have hP : va_P D vwCl ([(o2, .inl (k 6, 1, .inr (.inr (.inr (.inl g2)))))] ++ ([(o, .inl (k 5, 1, .inr (.inl u_1)))] ++ (fz_MO q2 u_2))) H := hP
    have hD : va_D (fun q : Nat => s.heap.size ≤ q) ([(o2, .inl (k 6, 1, .inr (.inr (.inr (.inl g2)))))] ++ ([(o, .inl (k 5, 1, .inr (.inl u_1)))] ++ (fz_MO q2 u_2))) := hD
    rcases hw with ⟨rfl, ht_2, hc_2⟩
    · skip
      refine lv_istore (lv' := [(7, .int 0), (6, .int 1), (5, .int 0), (4, .ref o2), (3, .ref o), (2, .ref (q2 0)), (1, .ref (q 31)), (0, .ref b)]) hx hb dL_law_1815 hl (by decide) rfl (fun ls hl => ?_)
      refine lv_aload_n hx hb dL_law_1817 rfl (lv_at hl 5 rfl) ?_
      have hPc := hP.sub (ws' := (fz_MO q2 u_2)) [2] rfl
      have hDc : va_D (va_A (fz_MO q2 u_2) H.size) (fz_MO q2 u_2) := (hD.sub (ws' := (fz_MO q2 u_2)) [2] (by decide) rfl).self
      have hFc := va_free (wc := (fz_MO q2 u_2)) hD hS hA [2] rfl
      refine fz_cVi (As := []) (rest := []) S0 (m_thrown l (va_A (fz_MO q2 u_2) H.size) D k q2 u_2) (fz_cwV (C := RX10) 0 hts9 fm_823 fm_824 fm_825 fm_826 fm_469 rfl rfl ⟨by decide, by decide, by decide +kernel⟩ ⟨Nat.le_of_ble_eq_true rfl, Nat.le_of_ble_eq_true rfl⟩) (va_recv hK hPc (ci := 14) (q0 := 0) rfl rfl) hFc (fun a9 h9 => Or.inr h9) hG hS hPc hK hDc rfl hl.1 rfl (Nat.le_of_ble_eq_true rfl) dL_law_1818 ⟨Nat.le_of_ble_eq_true rfl, Nat.le_of_ble_eq_true rfl⟩ (fun r_3 u_3 H locs hw hz1 hk1 hP1 hS => ?_)
      obtain ⟨hP, hD⟩ := va_join (wr := ([(o2, .inl (k 6, 1, .inr (.inr (.inr (.inl g2)))))] ++ ([(o, .inl (k 5, 1, .inr (.inl u_1)))]))) (w1 := (fz_MO q2 u_2)) hP hD [2] [0, 1] rfl rfl (by decide) (by decide) hk1 hFc hP1 hDc
      have hP : va_P D vwCl ([(o2, .inl (k 6, 1, .inr (.inr (.inr (.inl g2)))))] ++ ([(o, .inl (k 5, 1, .inr (.inl u_1)))] ++ (fz_MO q2 u_2))) H := hP
      have hD : va_D (fun q : Nat => s.heap.size ≤ q) ([(o2, .inl (k 6, 1, .inr (.inr (.inr (.inl g2)))))] ++ ([(o, .inl (k 5, 1, .inr (.inl u_1)))] ++ (fz_MO q2 u_2))) := hD
      obtain rfl : r_3 = u_2 0 := hw
      refine fz_I (y := 1) ht_2 ?_
      refine lv_iload hx hb dL_law_1821 (lv_at hl 1 rfl) ?_
      refine lv_icmp_eq (tgt := 1828) hx hb dL_law_1823 (by decide) (fun c9 => ?_) (fun c9 => absurd (by decide) c9)
      refine lv_iload hx hb dL_law_1828 (lv_at hl 1 rfl) ?_
      refine lv_if_ne (tgt := 1845) hx hb dL_law_1830 (by decide) (fun c9 => ?_) (fun c9 => absurd c9 (by decide))
      refine lv_goto (tgt := 2457) hx hb dL_law_1845 (by decide) ?_
      exact lw_tail hL C0 (Nat.le_of_ble_eq_true rfl) (Nat.le_of_ble_eq_true rfl) hS ls (lv_sub hl [2, 7] rfl)

set_option maxHeartbeats 8000000 in
set_option maxRecDepth 100000 in
theorem lw_case24 {p : Program} {l : Launch} {e : Env} {s : State} {m : MethodId} {below : List Frame} {meth : Method} {c : Code} {D : va_G} {b L : Nat} {xs : Nat → Int32} (hl0 : l.stackTraces = false) (hL : L = 6) (C0 : lw_At p s m meth c b L xs) (hG : fz_GS (fun q : Nat => s.heap.size ≤ q) s) (k : Nat → ClassId) (hK : va_K D vwCl (fz_tys k) s) (q q2 : Nat → Nat) (f f2 : Nat → Nat → Int32) (pa pa2 : Nat → Option Nat) (v v2 : Nat → Int32) (o o2 : Nat) (g : Nat → Int64) (g2 : Nat → UInt64) (hF : fz_LF q2 f pa v f2 pa2 v2) (H : Heap) (locs : List Loc) (hP : va_P D vwCl (fz_WC k q f pa v ++ ([(o, .inl (k 5, 1, .inr (.inl g)))] ++ ([(o2, .inl (k 6, 1, .inr (.inr (.inr (.inl g2)))))] ++ (fz_WM k q2 f2 pa2 v2)))) H) (hD : va_D (fun q : Nat => s.heap.size ≤ q) (fz_WC k q f pa v ++ ([(o, .inl (k 5, 1, .inr (.inl g)))] ++ ([(o2, .inl (k 6, 1, .inr (.inr (.inr (.inl g2)))))] ++ (fz_WM k q2 f2 pa2 v2))))) (hS : va_S (fun q : Nat => s.heap.size ≤ q) s.heap H locs) (ls : Array Slot) (hl : lv_has ls 9 [(5, .int 0), (4, .ref o2), (3, .ref o), (2, .ref (q2 0)), (1, .ref (q 31)), (0, .ref b)]) :
    W p l e room_1 s m #[Value.ref b] below meth c H locs 2000 400000 (lw_Z below #[Value.ref b] s) (F0 m 1848 ls []) := by
  obtain ⟨g_v_0, g_v_1, g_v_2, g_v_3, g_v_4, g_v_5, g_v_6, g_v_7, g_v_8, g_v_9, g_v_10, g_v_11, g_v_12, g_v_13, g_v_14, g_v_15, g_v_17, g_f_2_0, g_f_4_0, g_f_5_0, g_f_6_0, g_f_7_0, g_f_8_0, g_f_9_0, g_f_11_0, g_f_18_0, g_f_19_0, g_pa_0, g_pa_1, g_pa_8, n_v_0, n_v_5, n_v_6, n_v_7, n_v_8, n_v_9, n_v_10, n_v_11, n_v_12, n_v_13, n_v_15, n_v_16, n_v_17, n_v_18, n_v_19, n_v_21, n_f_1_0, n_f_1_1, n_f_1_2, n_f_1_3, n_f_1_4, n_f_1_5, n_f_1_6, n_f_1_7, n_f_1_8, n_f_1_9, n_f_1_10, n_f_1_11, n_f_1_12, n_f_1_13, n_f_1_15, n_f_1_16, n_f_1_17, n_pb_0⟩ := hF
  obtain ⟨hx, hb, hr, hml, hown, hts, hX, hbl, hlocks, hgv⟩ := id C0
  subst hL
  have hL : (6 : Nat) = 6 := rfl
  have hA : ∀ q : Nat, s.heap.size ≤ q → (fun q : Nat => s.heap.size ≤ q) q := fun _ h => h
  have hbA : ¬ (fun q : Nat => s.heap.size ≤ q) b := Nat.not_le.mpr hbl
  have hts9 := fz_hts9 hts
  have hown : s.vm.findClass RL = some m.cls := hown
  have S0 : CallFix p m c code 9 s #[Value.ref b] (Cond.initialized RL :: fz_WA) RL := ⟨hx, hb, hml, hown, hts9⟩
  obtain ⟨x1, ex1⟩ : ∃ z, z = xs 1 := ⟨_, rfl⟩
  obtain ⟨x2, ex2⟩ : ∃ z, z = xs 2 := ⟨_, rfl⟩
  obtain ⟨x3, ex3⟩ : ∃ z, z = xs 3 := ⟨_, rfl⟩
  obtain ⟨x4, ex4⟩ : ∃ z, z = xs 4 := ⟨_, rfl⟩
  obtain ⟨x5, ex5⟩ : ∃ z, z = xs 5 := ⟨_, rfl⟩
  refine lv_aload_n hx hb dL_law_1848 rfl (lv_at hl 4 rfl) ?_
  have hPc := hP.sub (ws' := (fz_WC k q f pa v)) [0, 1, 2, 3, 4, 5, 6, 7, 8, 9, 10, 11, 12, 13, 14, 15, 16, 17, 18, 19, 20, 21, 22, 23, 24, 25, 26, 27, 28, 29, 30, 31, 32, 33, 34, 35, 36, 37] rfl
  have hDc : va_D (va_A (fz_WC k q f pa v) H.size) (fz_WC k q f pa v) := (hD.sub (ws' := (fz_WC k q f pa v)) [0, 1, 2, 3, 4, 5, 6, 7, 8, 9, 10, 11, 12, 13, 14, 15, 16, 17, 18, 19, 20, 21, 22, 23, 24, 25, 26, 27, 28, 29, 30, 31, 32, 33, 34, 35, 36, 37] (by decide) rfl).self
  have hFc := va_free (wc := (fz_WC k q f pa v)) hD hS hA [0, 1, 2, 3, 4, 5, 6, 7, 8, 9, 10, 11, 12, 13, 14, 15, 16, 17, 18, 19, 20, 21, 22, 23, 24, 25, 26, 27, 28, 29, 30, 31, 32, 33, 34, 35, 36, 37] rfl
  refine fz_cVi (As := []) (rest := []) S0 (c_review l (va_A (fz_WC k q f pa v) H.size) D k q f pa v g_v_9 g_v_1 g_v_2 g_v_3 g_v_4 g_v_5 g_v_6 g_v_7 g_v_8 g_v_0 g_v_10 g_pa_1) (fz_cwV (C := RX9) 0 hts9 fm_959 fm_960 fm_961 fm_962 fm_6 rfl rfl ⟨by decide, by decide, by decide +kernel⟩ ⟨Nat.le_of_ble_eq_true rfl, Nat.le_of_ble_eq_true rfl⟩) (va_recv hK hPc (ci := 13) (q0 := 31) rfl rfl) hFc (fun a9 h9 => Or.inr h9) hG hS hPc hK hDc rfl hl.1 rfl (Nat.le_of_ble_eq_true rfl) dL_law_1849 ⟨Nat.le_of_ble_eq_true rfl, Nat.le_of_ble_eq_true rfl⟩ (fun r_1 u_1 H locs hw hz1 hk1 hP1 hS => ?_)
  obtain ⟨hP, hD⟩ := va_join (wr := ([(o, .inl (k 5, 1, .inr (.inl g)))] ++ ([(o2, .inl (k 6, 1, .inr (.inr (.inr (.inl g2)))))] ++ (fz_WM k q2 f2 pa2 v2)))) (w1 := ([] : va_W)) hP hD [0, 1, 2, 3, 4, 5, 6, 7, 8, 9, 10, 11, 12, 13, 14, 15, 16, 17, 18, 19, 20, 21, 22, 23, 24, 25, 26, 27, 28, 29, 30, 31, 32, 33, 34, 35, 36, 37] [38, 39, 40, 41, 42, 43, 44, 45, 46, 47] rfl rfl (by decide) (by decide) hk1 hFc hP1 fz_nilD
  have hP : va_P D vwCl ([(o, .inl (k 5, 1, .inr (.inl g)))] ++ ([(o2, .inl (k 6, 1, .inr (.inr (.inr (.inl g2)))))] ++ (fz_WM k q2 f2 pa2 v2))) H := hP
  have hD : va_D (fun q : Nat => s.heap.size ≤ q) ([(o, .inl (k 5, 1, .inr (.inl g)))] ++ ([(o2, .inl (k 6, 1, .inr (.inr (.inr (.inl g2)))))] ++ (fz_WM k q2 f2 pa2 v2))) := hD
  obtain rfl : r_1 = 0 := hw
  refine lv_aload_n hx hb dL_law_1852 rfl (lv_at hl 3 rfl) ?_
  have hPc := hP.sub (ws' := (fz_WM k q2 f2 pa2 v2)) [2, 3, 4, 5, 6, 7, 8, 9] rfl
  have hDc : va_D (va_A (fz_WM k q2 f2 pa2 v2) H.size) (fz_WM k q2 f2 pa2 v2) := (hD.sub (ws' := (fz_WM k q2 f2 pa2 v2)) [2, 3, 4, 5, 6, 7, 8, 9] (by decide) rfl).self
  have hFc := va_free (wc := (fz_WM k q2 f2 pa2 v2)) hD hS hA [2, 3, 4, 5, 6, 7, 8, 9] rfl
  refine fz_cVi (As := []) (rest := [.int 0]) S0 (m_p_review l (va_A (fz_WM k q2 f2 pa2 v2) H.size) D k q2 f2 pa2 v2  n_v_5 n_pb_0 n_f_1_4) (fz_cwV (C := RX10) 0 hts9 fm_963 fm_964 fm_965 fm_966 fm_469 rfl rfl ⟨by decide, by decide, by decide +kernel⟩ ⟨Nat.le_of_ble_eq_true rfl, Nat.le_of_ble_eq_true rfl⟩) (va_recv hK hPc (ci := 14) (q0 := 0) rfl rfl) hFc (fun a9 h9 => Or.inr h9) hG hS hPc hK hDc rfl hl.1 rfl (Nat.le_of_ble_eq_true rfl) dL_law_1853 ⟨Nat.le_of_ble_eq_true rfl, Nat.le_of_ble_eq_true rfl⟩ (fun r_2 u_2 H locs hw hz1 hk1 hP1 hS => ?_)
  obtain ⟨hP, hD⟩ := va_join (wr := ([(o, .inl (k 5, 1, .inr (.inl g)))] ++ ([(o2, .inl (k 6, 1, .inr (.inr (.inr (.inl g2)))))]))) (w1 := (fz_MO q2 u_2)) hP hD [2, 3, 4, 5, 6, 7, 8, 9] [0, 1] rfl rfl (by decide) (by decide) hk1 hFc hP1 (fz_Dsame (hDc.sub (ws' := fz_MO q2 v2) [0] (by decide) rfl) rfl)
  have hP : va_P D vwCl ([(o, .inl (k 5, 1, .inr (.inl g)))] ++ ([(o2, .inl (k 6, 1, .inr (.inr (.inr (.inl g2)))))] ++ (fz_MO q2 u_2))) H := hP
  have hD : va_D (fun q : Nat => s.heap.size ≤ q) ([(o, .inl (k 5, 1, .inr (.inl g)))] ++ ([(o2, .inl (k 6, 1, .inr (.inr (.inr (.inl g2)))))] ++ (fz_MO q2 u_2))) := hD
  rcases hw with ⟨rfl, ht_2, hc_2⟩
  · skip
    refine lv_icmp_eq (tgt := 2457) hx hb dL_law_1856 (by decide) (fun c9 => ?_) (fun c9 => absurd (by decide) c9)
    exact lw_tail hL C0 (Nat.le_of_ble_eq_true rfl) (Nat.le_of_ble_eq_true rfl) hS ls (lv_sub hl [0, 5] rfl)

set_option maxHeartbeats 8000000 in
set_option maxRecDepth 100000 in
theorem lw_case25 {p : Program} {l : Launch} {e : Env} {s : State} {m : MethodId} {below : List Frame} {meth : Method} {c : Code} {D : va_G} {b L : Nat} {xs : Nat → Int32} (hl0 : l.stackTraces = false) (hL : L = 6) (C0 : lw_At p s m meth c b L xs) (hG : fz_GS (fun q : Nat => s.heap.size ≤ q) s) (k : Nat → ClassId) (hK : va_K D vwCl (fz_tys k) s) (q q2 : Nat → Nat) (f f2 : Nat → Nat → Int32) (pa pa2 : Nat → Option Nat) (v v2 : Nat → Int32) (o o2 : Nat) (g : Nat → Int64) (g2 : Nat → UInt64) (hF : fz_LF q2 f pa v f2 pa2 v2) (H : Heap) (locs : List Loc) (hP : va_P D vwCl (fz_WC k q f pa v ++ ([(o, .inl (k 5, 1, .inr (.inl g)))] ++ ([(o2, .inl (k 6, 1, .inr (.inr (.inr (.inl g2)))))] ++ (fz_WM k q2 f2 pa2 v2)))) H) (hD : va_D (fun q : Nat => s.heap.size ≤ q) (fz_WC k q f pa v ++ ([(o, .inl (k 5, 1, .inr (.inl g)))] ++ ([(o2, .inl (k 6, 1, .inr (.inr (.inr (.inl g2)))))] ++ (fz_WM k q2 f2 pa2 v2))))) (hS : va_S (fun q : Nat => s.heap.size ≤ q) s.heap H locs) (ls : Array Slot) (hl : lv_has ls 9 [(5, .int 0), (4, .ref o2), (3, .ref o), (2, .ref (q2 0)), (1, .ref (q 31)), (0, .ref b)]) :
    W p l e room_1 s m #[Value.ref b] below meth c H locs 2000 400000 (lw_Z below #[Value.ref b] s) (F0 m 1861 ls []) := by
  obtain ⟨g_v_0, g_v_1, g_v_2, g_v_3, g_v_4, g_v_5, g_v_6, g_v_7, g_v_8, g_v_9, g_v_10, g_v_11, g_v_12, g_v_13, g_v_14, g_v_15, g_v_17, g_f_2_0, g_f_4_0, g_f_5_0, g_f_6_0, g_f_7_0, g_f_8_0, g_f_9_0, g_f_11_0, g_f_18_0, g_f_19_0, g_pa_0, g_pa_1, g_pa_8, n_v_0, n_v_5, n_v_6, n_v_7, n_v_8, n_v_9, n_v_10, n_v_11, n_v_12, n_v_13, n_v_15, n_v_16, n_v_17, n_v_18, n_v_19, n_v_21, n_f_1_0, n_f_1_1, n_f_1_2, n_f_1_3, n_f_1_4, n_f_1_5, n_f_1_6, n_f_1_7, n_f_1_8, n_f_1_9, n_f_1_10, n_f_1_11, n_f_1_12, n_f_1_13, n_f_1_15, n_f_1_16, n_f_1_17, n_pb_0⟩ := hF
  obtain ⟨hx, hb, hr, hml, hown, hts, hX, hbl, hlocks, hgv⟩ := id C0
  subst hL
  have hL : (6 : Nat) = 6 := rfl
  have hA : ∀ q : Nat, s.heap.size ≤ q → (fun q : Nat => s.heap.size ≤ q) q := fun _ h => h
  have hbA : ¬ (fun q : Nat => s.heap.size ≤ q) b := Nat.not_le.mpr hbl
  have hts9 := fz_hts9 hts
  have hown : s.vm.findClass RL = some m.cls := hown
  have S0 : CallFix p m c code 9 s #[Value.ref b] (Cond.initialized RL :: fz_WA) RL := ⟨hx, hb, hml, hown, hts9⟩
  obtain ⟨x1, ex1⟩ : ∃ z, z = xs 1 := ⟨_, rfl⟩
  obtain ⟨x2, ex2⟩ : ∃ z, z = xs 2 := ⟨_, rfl⟩
  obtain ⟨x3, ex3⟩ : ∃ z, z = xs 3 := ⟨_, rfl⟩
  obtain ⟨x4, ex4⟩ : ∃ z, z = xs 4 := ⟨_, rfl⟩
  obtain ⟨x5, ex5⟩ : ∃ z, z = xs 5 := ⟨_, rfl⟩
  refine lv_aload_n hx hb dL_law_1861 rfl (lv_at hl 4 rfl) ?_
  refine lv_aload_n hx hb dL_law_1862 rfl (lv_at hl 5 rfl) ?_
  refine lv_iload hx hb dL_law_1863 (lv_at hl 0 rfl) ?_
  refine lv_iconst (v := 1) hx hb dL_law_1865 (by decide) ?_
  refine lv_iadd hx hb dL_law_1866 ?_
  refine fz_I (y := 1) (by decide) ?_
  refine va_sld hx hb hX hbl hbA hS (fz_vin (by decide)) dL_law_1867 ?_
  refine fz_I (y := x1) ex1.symm ?_
  refine lv_aload_n hx hb dL_law_1868 rfl (lv_at hl 2 rfl) ?_
  have hPc := hP.sub (ws' := (fz_WC k q f pa v ++ ([(o, .inl (k 5, 1, .inr (.inl g)))]))) [0, 1, 2, 3, 4, 5, 6, 7, 8, 9, 10, 11, 12, 13, 14, 15, 16, 17, 18, 19, 20, 21, 22, 23, 24, 25, 26, 27, 28, 29, 30, 31, 32, 33, 34, 35, 36, 37, 38] rfl
  have hDc : va_D (va_A (fz_WC k q f pa v ++ ([(o, .inl (k 5, 1, .inr (.inl g)))])) H.size) (fz_WC k q f pa v ++ ([(o, .inl (k 5, 1, .inr (.inl g)))])) := (hD.sub (ws' := (fz_WC k q f pa v ++ ([(o, .inl (k 5, 1, .inr (.inl g)))]))) [0, 1, 2, 3, 4, 5, 6, 7, 8, 9, 10, 11, 12, 13, 14, 15, 16, 17, 18, 19, 20, 21, 22, 23, 24, 25, 26, 27, 28, 29, 30, 31, 32, 33, 34, 35, 36, 37, 38] (by decide) rfl).self
  have hFc := va_free (wc := (fz_WC k q f pa v ++ ([(o, .inl (k 5, 1, .inr (.inl g)))]))) hD hS hA [0, 1, 2, 3, 4, 5, 6, 7, 8, 9, 10, 11, 12, 13, 14, 15, 16, 17, 18, 19, 20, 21, 22, 23, 24, 25, 26, 27, 28, 29, 30, 31, 32, 33, 34, 35, 36, 37, 38] rfl
  refine fz_hSi (As := [.ref (q 31), .int x1, .ref o]) (rest := []) S0 (h_account l hl0 (va_A (fz_WC k q f pa v ++ ([(o, .inl (k 5, 1, .inr (.inl g)))])) H.size) D k q f pa v o g x1 g_v_2 g_f_2_0 g_f_7_0 g_f_6_0 g_v_4 g_v_5 g_v_7 g_v_8 g_v_6) (vx_cwSW 3 hts9 (fz_gSW fm_769 fm_967 fm_968 fm_816) rfl rfl rfl ⟨by decide, by decide, by decide +kernel⟩ ⟨Nat.le_of_ble_eq_true rfl, Nat.le_of_ble_eq_true rfl⟩) hFc (fun a9 h9 => Or.inr h9) hG hS hPc hK hDc rfl hl.1 rfl (Nat.le_of_ble_eq_true rfl) dL_law_1869 ⟨Nat.le_of_ble_eq_true rfl, Nat.le_of_ble_eq_true rfl⟩ (fun r_1 u_1 H locs hw hz1 hk1 hP1 hS => ?_)
  obtain ⟨hP, hD⟩ := va_join (wr := ([(o2, .inl (k 6, 1, .inr (.inr (.inr (.inl g2)))))] ++ (fz_WM k q2 f2 pa2 v2))) (w1 := ([(o, .inl (k 5, 1, .inr (.inl u_1)))])) hP hD [0, 1, 2, 3, 4, 5, 6, 7, 8, 9, 10, 11, 12, 13, 14, 15, 16, 17, 18, 19, 20, 21, 22, 23, 24, 25, 26, 27, 28, 29, 30, 31, 32, 33, 34, 35, 36, 37, 38] [39, 40, 41, 42, 43, 44, 45, 46, 47] rfl rfl (by decide) (by decide) hk1 hFc hP1 (fz_Dsame (hDc.sub (ws' := [(o, .inl (k 5, 1, .inr (.inl g)))]) [38] (by decide) rfl) rfl)
  have hP : va_P D vwCl ([(o2, .inl (k 6, 1, .inr (.inr (.inr (.inl g2)))))] ++ (fz_WM k q2 f2 pa2 v2 ++ ([(o, .inl (k 5, 1, .inr (.inl u_1)))]))) H := hP
  have hD : va_D (fun q : Nat => s.heap.size ≤ q) ([(o2, .inl (k 6, 1, .inr (.inr (.inr (.inl g2)))))] ++ (fz_WM k q2 f2 pa2 v2 ++ ([(o, .inl (k 5, 1, .inr (.inl u_1)))]))) := hD
  rcases hw with ⟨rfl, hu_1, hc_1⟩ | ⟨rfl, hu_1, hc_1⟩ | ⟨rfl, hc_1⟩
  · skip
    obtain rfl : x1 = 0 := (fq_27 x1 hc_1)
    refine lv_istore (lv' := [(6, .int 0), (5, .int 0), (4, .ref o2), (3, .ref o), (2, .ref (q2 0)), (1, .ref (q 31)), (0, .ref b)]) hx hb dL_law_1872 hl (by decide) rfl (fun ls hl => ?_)
    refine lv_aload_n hx hb dL_law_1874 rfl (lv_at hl 4 rfl) ?_
    refine lv_aload_n hx hb dL_law_1875 rfl (lv_at hl 6 rfl) ?_
    refine lv_iload hx hb dL_law_1876 (lv_at hl 1 rfl) ?_
    refine lv_iconst (v := 1) hx hb dL_law_1878 (by decide) ?_
    refine lv_iadd hx hb dL_law_1879 ?_
    refine fz_I (y := 1) (by decide) ?_
    refine va_sld hx hb hX hbl hbA hS (fz_vin (by decide)) dL_law_1880 ?_
    refine fz_I (y := 0) ex1.symm ?_
    have hPc := hP.sub (ws' := (fz_WM k q2 f2 pa2 v2)) [1, 2, 3, 4, 5, 6, 7, 8] rfl
    have hDc : va_D (va_A (fz_WM k q2 f2 pa2 v2) H.size) (fz_WM k q2 f2 pa2 v2) := (hD.sub (ws' := (fz_WM k q2 f2 pa2 v2)) [1, 2, 3, 4, 5, 6, 7, 8] (by decide) rfl).self
    have hFc := va_free (wc := (fz_WM k q2 f2 pa2 v2)) hD hS hA [1, 2, 3, 4, 5, 6, 7, 8] rfl
    refine fz_cVi (As := [.int 0]) (rest := []) S0 (m_p_account l (va_A (fz_WM k q2 f2 pa2 v2) H.size) D k q2 f2 pa2 v2 0 n_f_1_0 n_f_1_7 n_f_1_10 n_f_1_2 n_f_1_3 n_f_1_4 n_f_1_6) (fz_cwV (C := RX10) 1 hts9 fm_969 fm_970 fm_971 fm_972 fm_469 rfl rfl ⟨by decide, by decide, by decide +kernel⟩ ⟨Nat.le_of_ble_eq_true rfl, Nat.le_of_ble_eq_true rfl⟩) (va_recv hK hPc (ci := 14) (q0 := 0) rfl rfl) hFc (fun a9 h9 => Or.inr h9) hG hS hPc hK hDc rfl hl.1 rfl (Nat.le_of_ble_eq_true rfl) dL_law_1881 ⟨Nat.le_of_ble_eq_true rfl, Nat.le_of_ble_eq_true rfl⟩ (fun r_2 u_2 H locs hw hz1 hk1 hP1 hS => ?_)
    obtain ⟨hP, hD⟩ := va_join (wr := ([(o2, .inl (k 6, 1, .inr (.inr (.inr (.inl g2)))))] ++ ([(o, .inl (k 5, 1, .inr (.inl u_1)))]))) (w1 := (fz_MO q2 u_2)) hP hD [1, 2, 3, 4, 5, 6, 7, 8] [0, 9] rfl rfl (by decide) (by decide) hk1 hFc hP1 (fz_Dsame (hDc.sub (ws' := fz_MO q2 v2) [0] (by decide) rfl) rfl)
    have hP : va_P D vwCl ([(o2, .inl (k 6, 1, .inr (.inr (.inr (.inl g2)))))] ++ ([(o, .inl (k 5, 1, .inr (.inl u_1)))] ++ (fz_MO q2 u_2))) H := hP
    have hD : va_D (fun q : Nat => s.heap.size ≤ q) ([(o2, .inl (k 6, 1, .inr (.inr (.inr (.inl g2)))))] ++ ([(o, .inl (k 5, 1, .inr (.inl u_1)))] ++ (fz_MO q2 u_2))) := hD
    rcases hw with ⟨rfl, ht_2, hc_2⟩ | ⟨rfl, ht_2, hc_2⟩ | ⟨rfl, ht_2, hc_2⟩
    · skip
      exact (fq_244 hc_2).elim
    · skip
      refine lv_istore (lv' := [(7, .int 1), (6, .int 0), (5, .int 0), (4, .ref o2), (3, .ref o), (2, .ref (q2 0)), (1, .ref (q 31)), (0, .ref b)]) hx hb dL_law_1884 hl (by decide) rfl (fun ls hl => ?_)
      refine lv_aload_n hx hb dL_law_1886 rfl (lv_at hl 5 rfl) ?_
      have hPc := hP.sub (ws' := (fz_MO q2 u_2)) [2] rfl
      have hDc : va_D (va_A (fz_MO q2 u_2) H.size) (fz_MO q2 u_2) := (hD.sub (ws' := (fz_MO q2 u_2)) [2] (by decide) rfl).self
      have hFc := va_free (wc := (fz_MO q2 u_2)) hD hS hA [2] rfl
      refine fz_cVi (As := []) (rest := []) S0 (m_thrown l (va_A (fz_MO q2 u_2) H.size) D k q2 u_2) (fz_cwV (C := RX10) 0 hts9 fm_823 fm_824 fm_825 fm_826 fm_469 rfl rfl ⟨by decide, by decide, by decide +kernel⟩ ⟨Nat.le_of_ble_eq_true rfl, Nat.le_of_ble_eq_true rfl⟩) (va_recv hK hPc (ci := 14) (q0 := 0) rfl rfl) hFc (fun a9 h9 => Or.inr h9) hG hS hPc hK hDc rfl hl.1 rfl (Nat.le_of_ble_eq_true rfl) dL_law_1887 ⟨Nat.le_of_ble_eq_true rfl, Nat.le_of_ble_eq_true rfl⟩ (fun r_3 u_3 H locs hw hz1 hk1 hP1 hS => ?_)
      obtain ⟨hP, hD⟩ := va_join (wr := ([(o2, .inl (k 6, 1, .inr (.inr (.inr (.inl g2)))))] ++ ([(o, .inl (k 5, 1, .inr (.inl u_1)))]))) (w1 := (fz_MO q2 u_2)) hP hD [2] [0, 1] rfl rfl (by decide) (by decide) hk1 hFc hP1 hDc
      have hP : va_P D vwCl ([(o2, .inl (k 6, 1, .inr (.inr (.inr (.inl g2)))))] ++ ([(o, .inl (k 5, 1, .inr (.inl u_1)))] ++ (fz_MO q2 u_2))) H := hP
      have hD : va_D (fun q : Nat => s.heap.size ≤ q) ([(o2, .inl (k 6, 1, .inr (.inr (.inr (.inl g2)))))] ++ ([(o, .inl (k 5, 1, .inr (.inl u_1)))] ++ (fz_MO q2 u_2))) := hD
      obtain rfl : r_3 = u_2 0 := hw
      refine fz_I (y := 0) ht_2 ?_
      refine lv_iload hx hb dL_law_1890 (lv_at hl 1 rfl) ?_
      refine lv_icmp_eq (tgt := 1897) hx hb dL_law_1892 (by decide) (fun c9 => ?_) (fun c9 => absurd (by decide) c9)
      refine lv_iload hx hb dL_law_1897 (lv_at hl 1 rfl) ?_
      refine lv_if_ne (tgt := 1914) hx hb dL_law_1899 (by decide) (fun c9 => absurd (by decide) c9) (fun c9 => ?_)
      refine lv_aload_n hx hb dL_law_1902 rfl (lv_at hl 4 rfl) ?_
      refine lv_iconst (v := 0) hx hb dL_law_1903 (by decide) ?_
      refine va_lald hx hb hK hP 1 5 rfl rfl (fz_vin (by decide)) dL_law_1904 ?_
      refine fz_V (y := .long ((1 : Int32).toInt64)) (congrArg Value.long hu_1) ?_
      refine lv_iload hx hb dL_law_1905 (lv_at hl 0 rfl) ?_
      refine lv_i2l (v := (1 : Int32).toInt64) hx hb dL_law_1907 rfl ?_
      refine W.lcmp hx hb dL_law_1908 ?_
      refine fz_I (y := 0) (by decide) ?_
      refine lv_if_eq (tgt := 1914) hx hb dL_law_1909 (by decide) (fun c9 => ?_) (fun c9 => absurd (by decide) c9)
      refine lv_goto (tgt := 2457) hx hb dL_law_1914 (by decide) ?_
      exact lw_tail hL C0 (Nat.le_of_ble_eq_true rfl) (Nat.le_of_ble_eq_true rfl) hS ls (lv_sub hl [2, 7] rfl)
    · skip
      exact (fq_245 hc_2).elim
  · skip
    refine lv_istore (lv' := [(6, .int 0), (5, .int 0), (4, .ref o2), (3, .ref o), (2, .ref (q2 0)), (1, .ref (q 31)), (0, .ref b)]) hx hb dL_law_1872 hl (by decide) rfl (fun ls hl => ?_)
    refine lv_aload_n hx hb dL_law_1874 rfl (lv_at hl 4 rfl) ?_
    refine lv_aload_n hx hb dL_law_1875 rfl (lv_at hl 6 rfl) ?_
    refine lv_iload hx hb dL_law_1876 (lv_at hl 1 rfl) ?_
    refine lv_iconst (v := 1) hx hb dL_law_1878 (by decide) ?_
    refine lv_iadd hx hb dL_law_1879 ?_
    refine fz_I (y := 1) (by decide) ?_
    refine va_sld hx hb hX hbl hbA hS (fz_vin (by decide)) dL_law_1880 ?_
    refine fz_I (y := x1) ex1.symm ?_
    have hPc := hP.sub (ws' := (fz_WM k q2 f2 pa2 v2)) [1, 2, 3, 4, 5, 6, 7, 8] rfl
    have hDc : va_D (va_A (fz_WM k q2 f2 pa2 v2) H.size) (fz_WM k q2 f2 pa2 v2) := (hD.sub (ws' := (fz_WM k q2 f2 pa2 v2)) [1, 2, 3, 4, 5, 6, 7, 8] (by decide) rfl).self
    have hFc := va_free (wc := (fz_WM k q2 f2 pa2 v2)) hD hS hA [1, 2, 3, 4, 5, 6, 7, 8] rfl
    refine fz_cVi (As := [.int x1]) (rest := []) S0 (m_p_account l (va_A (fz_WM k q2 f2 pa2 v2) H.size) D k q2 f2 pa2 v2 x1 n_f_1_0 n_f_1_7 n_f_1_10 n_f_1_2 n_f_1_3 n_f_1_4 n_f_1_6) (fz_cwV (C := RX10) 1 hts9 fm_969 fm_970 fm_971 fm_972 fm_469 rfl rfl ⟨by decide, by decide, by decide +kernel⟩ ⟨Nat.le_of_ble_eq_true rfl, Nat.le_of_ble_eq_true rfl⟩) (va_recv hK hPc (ci := 14) (q0 := 0) rfl rfl) hFc (fun a9 h9 => Or.inr h9) hG hS hPc hK hDc rfl hl.1 rfl (Nat.le_of_ble_eq_true rfl) dL_law_1881 ⟨Nat.le_of_ble_eq_true rfl, Nat.le_of_ble_eq_true rfl⟩ (fun r_2 u_2 H locs hw hz1 hk1 hP1 hS => ?_)
    obtain ⟨hP, hD⟩ := va_join (wr := ([(o2, .inl (k 6, 1, .inr (.inr (.inr (.inl g2)))))] ++ ([(o, .inl (k 5, 1, .inr (.inl u_1)))]))) (w1 := (fz_MO q2 u_2)) hP hD [1, 2, 3, 4, 5, 6, 7, 8] [0, 9] rfl rfl (by decide) (by decide) hk1 hFc hP1 (fz_Dsame (hDc.sub (ws' := fz_MO q2 v2) [0] (by decide) rfl) rfl)
    have hP : va_P D vwCl ([(o2, .inl (k 6, 1, .inr (.inr (.inr (.inl g2)))))] ++ ([(o, .inl (k 5, 1, .inr (.inl u_1)))] ++ (fz_MO q2 u_2))) H := hP
    have hD : va_D (fun q : Nat => s.heap.size ≤ q) ([(o2, .inl (k 6, 1, .inr (.inr (.inr (.inl g2)))))] ++ ([(o, .inl (k 5, 1, .inr (.inl u_1)))] ++ (fz_MO q2 u_2))) := hD
    rcases hw with ⟨rfl, ht_2, hc_2⟩ | ⟨rfl, ht_2, hc_2⟩ | ⟨rfl, ht_2, hc_2⟩
    · skip
      exact (fq_246 x1 hc_1 hc_2).elim
    · skip
      exact (fq_247 x1 hc_1 hc_2).elim
    · skip
      refine lv_istore (lv' := [(7, .int 0), (6, .int 0), (5, .int 0), (4, .ref o2), (3, .ref o), (2, .ref (q2 0)), (1, .ref (q 31)), (0, .ref b)]) hx hb dL_law_1884 hl (by decide) rfl (fun ls hl => ?_)
      refine lv_aload_n hx hb dL_law_1886 rfl (lv_at hl 5 rfl) ?_
      have hPc := hP.sub (ws' := (fz_MO q2 u_2)) [2] rfl
      have hDc : va_D (va_A (fz_MO q2 u_2) H.size) (fz_MO q2 u_2) := (hD.sub (ws' := (fz_MO q2 u_2)) [2] (by decide) rfl).self
      have hFc := va_free (wc := (fz_MO q2 u_2)) hD hS hA [2] rfl
      refine fz_cVi (As := []) (rest := []) S0 (m_thrown l (va_A (fz_MO q2 u_2) H.size) D k q2 u_2) (fz_cwV (C := RX10) 0 hts9 fm_823 fm_824 fm_825 fm_826 fm_469 rfl rfl ⟨by decide, by decide, by decide +kernel⟩ ⟨Nat.le_of_ble_eq_true rfl, Nat.le_of_ble_eq_true rfl⟩) (va_recv hK hPc (ci := 14) (q0 := 0) rfl rfl) hFc (fun a9 h9 => Or.inr h9) hG hS hPc hK hDc rfl hl.1 rfl (Nat.le_of_ble_eq_true rfl) dL_law_1887 ⟨Nat.le_of_ble_eq_true rfl, Nat.le_of_ble_eq_true rfl⟩ (fun r_3 u_3 H locs hw hz1 hk1 hP1 hS => ?_)
      obtain ⟨hP, hD⟩ := va_join (wr := ([(o2, .inl (k 6, 1, .inr (.inr (.inr (.inl g2)))))] ++ ([(o, .inl (k 5, 1, .inr (.inl u_1)))]))) (w1 := (fz_MO q2 u_2)) hP hD [2] [0, 1] rfl rfl (by decide) (by decide) hk1 hFc hP1 hDc
      have hP : va_P D vwCl ([(o2, .inl (k 6, 1, .inr (.inr (.inr (.inl g2)))))] ++ ([(o, .inl (k 5, 1, .inr (.inl u_1)))] ++ (fz_MO q2 u_2))) H := hP
      have hD : va_D (fun q : Nat => s.heap.size ≤ q) ([(o2, .inl (k 6, 1, .inr (.inr (.inr (.inl g2)))))] ++ ([(o, .inl (k 5, 1, .inr (.inl u_1)))] ++ (fz_MO q2 u_2))) := hD
      obtain rfl : r_3 = u_2 0 := hw
      refine fz_I (y := 0) ht_2 ?_
      refine lv_iload hx hb dL_law_1890 (lv_at hl 1 rfl) ?_
      refine lv_icmp_eq (tgt := 1897) hx hb dL_law_1892 (by decide) (fun c9 => ?_) (fun c9 => absurd (by decide) c9)
      refine lv_iload hx hb dL_law_1897 (lv_at hl 1 rfl) ?_
      refine lv_if_ne (tgt := 1914) hx hb dL_law_1899 (by decide) (fun c9 => absurd (by decide) c9) (fun c9 => ?_)
      refine lv_aload_n hx hb dL_law_1902 rfl (lv_at hl 4 rfl) ?_
      refine lv_iconst (v := 0) hx hb dL_law_1903 (by decide) ?_
      refine va_lald hx hb hK hP 1 5 rfl rfl (fz_vin (by decide)) dL_law_1904 ?_
      refine fz_V (y := .long ((0 : Int32).toInt64)) (congrArg Value.long hu_1) ?_
      refine lv_iload hx hb dL_law_1905 (lv_at hl 0 rfl) ?_
      refine lv_i2l (v := (0 : Int32).toInt64) hx hb dL_law_1907 rfl ?_
      refine W.lcmp hx hb dL_law_1908 ?_
      refine fz_I (y := 0) (by decide) ?_
      refine lv_if_eq (tgt := 1914) hx hb dL_law_1909 (by decide) (fun c9 => ?_) (fun c9 => absurd (by decide) c9)
      refine lv_goto (tgt := 2457) hx hb dL_law_1914 (by decide) ?_
      exact lw_tail hL C0 (Nat.le_of_ble_eq_true rfl) (Nat.le_of_ble_eq_true rfl) hS ls (lv_sub hl [2, 7] rfl)
  · skip
    refine lv_istore (lv' := [(6, .int 1), (5, .int 0), (4, .ref o2), (3, .ref o), (2, .ref (q2 0)), (1, .ref (q 31)), (0, .ref b)]) hx hb dL_law_1872 hl (by decide) rfl (fun ls hl => ?_)
    refine lv_aload_n hx hb dL_law_1874 rfl (lv_at hl 4 rfl) ?_
    refine lv_aload_n hx hb dL_law_1875 rfl (lv_at hl 6 rfl) ?_
    refine lv_iload hx hb dL_law_1876 (lv_at hl 1 rfl) ?_
    refine lv_iconst (v := 1) hx hb dL_law_1878 (by decide) ?_
    refine lv_iadd hx hb dL_law_1879 ?_
    refine fz_I (y := 1) (by decide) ?_
    refine va_sld hx hb hX hbl hbA hS (fz_vin (by decide)) dL_law_1880 ?_
    refine fz_I (y := x1) ex1.symm ?_
    have hPc := hP.sub (ws' := (fz_WM k q2 f2 pa2 v2)) [1, 2, 3, 4, 5, 6, 7, 8] rfl
    have hDc : va_D (va_A (fz_WM k q2 f2 pa2 v2) H.size) (fz_WM k q2 f2 pa2 v2) := (hD.sub (ws' := (fz_WM k q2 f2 pa2 v2)) [1, 2, 3, 4, 5, 6, 7, 8] (by decide) rfl).self
    have hFc := va_free (wc := (fz_WM k q2 f2 pa2 v2)) hD hS hA [1, 2, 3, 4, 5, 6, 7, 8] rfl
    refine fz_cVi (As := [.int x1]) (rest := []) S0 (m_p_account l (va_A (fz_WM k q2 f2 pa2 v2) H.size) D k q2 f2 pa2 v2 x1 n_f_1_0 n_f_1_7 n_f_1_10 n_f_1_2 n_f_1_3 n_f_1_4 n_f_1_6) (fz_cwV (C := RX10) 1 hts9 fm_969 fm_970 fm_971 fm_972 fm_469 rfl rfl ⟨by decide, by decide, by decide +kernel⟩ ⟨Nat.le_of_ble_eq_true rfl, Nat.le_of_ble_eq_true rfl⟩) (va_recv hK hPc (ci := 14) (q0 := 0) rfl rfl) hFc (fun a9 h9 => Or.inr h9) hG hS hPc hK hDc rfl hl.1 rfl (Nat.le_of_ble_eq_true rfl) dL_law_1881 ⟨Nat.le_of_ble_eq_true rfl, Nat.le_of_ble_eq_true rfl⟩ (fun r_2 u_2 H locs hw hz1 hk1 hP1 hS => ?_)
    obtain ⟨hP, hD⟩ := va_join (wr := ([(o2, .inl (k 6, 1, .inr (.inr (.inr (.inl g2)))))] ++ ([(o, .inl (k 5, 1, .inr (.inl u_1)))]))) (w1 := (fz_MO q2 u_2)) hP hD [1, 2, 3, 4, 5, 6, 7, 8] [0, 9] rfl rfl (by decide) (by decide) hk1 hFc hP1 (fz_Dsame (hDc.sub (ws' := fz_MO q2 v2) [0] (by decide) rfl) rfl)
    have hP : va_P D vwCl ([(o2, .inl (k 6, 1, .inr (.inr (.inr (.inl g2)))))] ++ ([(o, .inl (k 5, 1, .inr (.inl u_1)))] ++ (fz_MO q2 u_2))) H := hP
    have hD : va_D (fun q : Nat => s.heap.size ≤ q) ([(o2, .inl (k 6, 1, .inr (.inr (.inr (.inl g2)))))] ++ ([(o, .inl (k 5, 1, .inr (.inl u_1)))] ++ (fz_MO q2 u_2))) := hD
    rcases hw with ⟨rfl, ht_2, hc_2⟩ | ⟨rfl, ht_2, hc_2⟩ | ⟨rfl, ht_2, hc_2⟩
    · skip
      refine lv_istore (lv' := [(7, .int 0), (6, .int 1), (5, .int 0), (4, .ref o2), (3, .ref o), (2, .ref (q2 0)), (1, .ref (q 31)), (0, .ref b)]) hx hb dL_law_1884 hl (by decide) rfl (fun ls hl => ?_)
      refine lv_aload_n hx hb dL_law_1886 rfl (lv_at hl 5 rfl) ?_
      have hPc := hP.sub (ws' := (fz_MO q2 u_2)) [2] rfl
      have hDc : va_D (va_A (fz_MO q2 u_2) H.size) (fz_MO q2 u_2) := (hD.sub (ws' := (fz_MO q2 u_2)) [2] (by decide) rfl).self
      have hFc := va_free (wc := (fz_MO q2 u_2)) hD hS hA [2] rfl
      refine fz_cVi (As := []) (rest := []) S0 (m_thrown l (va_A (fz_MO q2 u_2) H.size) D k q2 u_2) (fz_cwV (C := RX10) 0 hts9 fm_823 fm_824 fm_825 fm_826 fm_469 rfl rfl ⟨by decide, by decide, by decide +kernel⟩ ⟨Nat.le_of_ble_eq_true rfl, Nat.le_of_ble_eq_true rfl⟩) (va_recv hK hPc (ci := 14) (q0 := 0) rfl rfl) hFc (fun a9 h9 => Or.inr h9) hG hS hPc hK hDc rfl hl.1 rfl (Nat.le_of_ble_eq_true rfl) dL_law_1887 ⟨Nat.le_of_ble_eq_true rfl, Nat.le_of_ble_eq_true rfl⟩ (fun r_3 u_3 H locs hw hz1 hk1 hP1 hS => ?_)
      obtain ⟨hP, hD⟩ := va_join (wr := ([(o2, .inl (k 6, 1, .inr (.inr (.inr (.inl g2)))))] ++ ([(o, .inl (k 5, 1, .inr (.inl u_1)))]))) (w1 := (fz_MO q2 u_2)) hP hD [2] [0, 1] rfl rfl (by decide) (by decide) hk1 hFc hP1 hDc
      have hP : va_P D vwCl ([(o2, .inl (k 6, 1, .inr (.inr (.inr (.inl g2)))))] ++ ([(o, .inl (k 5, 1, .inr (.inl u_1)))] ++ (fz_MO q2 u_2))) H := hP
      have hD : va_D (fun q : Nat => s.heap.size ≤ q) ([(o2, .inl (k 6, 1, .inr (.inr (.inr (.inl g2)))))] ++ ([(o, .inl (k 5, 1, .inr (.inl u_1)))] ++ (fz_MO q2 u_2))) := hD
      obtain rfl : r_3 = u_2 0 := hw
      refine fz_I (y := 1) ht_2 ?_
      refine lv_iload hx hb dL_law_1890 (lv_at hl 1 rfl) ?_
      refine lv_icmp_eq (tgt := 1897) hx hb dL_law_1892 (by decide) (fun c9 => ?_) (fun c9 => absurd (by decide) c9)
      refine lv_iload hx hb dL_law_1897 (lv_at hl 1 rfl) ?_
      refine lv_if_ne (tgt := 1914) hx hb dL_law_1899 (by decide) (fun c9 => ?_) (fun c9 => absurd c9 (by decide))
      refine lv_goto (tgt := 2457) hx hb dL_law_1914 (by decide) ?_
      exact lw_tail hL C0 (Nat.le_of_ble_eq_true rfl) (Nat.le_of_ble_eq_true rfl) hS ls (lv_sub hl [2, 7] rfl)
    · skip
      exact (fq_248 x1 hc_1 hc_2).elim
    · skip
      exact (fq_249 x1 hc_1 hc_2).elim

set_option maxHeartbeats 8000000 in
set_option maxRecDepth 100000 in
theorem lw_case26 {p : Program} {l : Launch} {e : Env} {s : State} {m : MethodId} {below : List Frame} {meth : Method} {c : Code} {D : va_G} {b L : Nat} {xs : Nat → Int32} (hl0 : l.stackTraces = false) (hL : L = 6) (C0 : lw_At p s m meth c b L xs) (hG : fz_GS (fun q : Nat => s.heap.size ≤ q) s) (k : Nat → ClassId) (hK : va_K D vwCl (fz_tys k) s) (q q2 : Nat → Nat) (f f2 : Nat → Nat → Int32) (pa pa2 : Nat → Option Nat) (v v2 : Nat → Int32) (o o2 : Nat) (g : Nat → Int64) (g2 : Nat → UInt64) (hF : fz_LF q2 f pa v f2 pa2 v2) (H : Heap) (locs : List Loc) (hP : va_P D vwCl (fz_WC k q f pa v ++ ([(o, .inl (k 5, 1, .inr (.inl g)))] ++ ([(o2, .inl (k 6, 1, .inr (.inr (.inr (.inl g2)))))] ++ (fz_WM k q2 f2 pa2 v2)))) H) (hD : va_D (fun q : Nat => s.heap.size ≤ q) (fz_WC k q f pa v ++ ([(o, .inl (k 5, 1, .inr (.inl g)))] ++ ([(o2, .inl (k 6, 1, .inr (.inr (.inr (.inl g2)))))] ++ (fz_WM k q2 f2 pa2 v2))))) (hS : va_S (fun q : Nat => s.heap.size ≤ q) s.heap H locs) (ls : Array Slot) (hl : lv_has ls 9 [(5, .int 0), (4, .ref o2), (3, .ref o), (2, .ref (q2 0)), (1, .ref (q 31)), (0, .ref b)]) :
    W p l e room_1 s m #[Value.ref b] below meth c H locs 2000 400000 (lw_Z below #[Value.ref b] s) (F0 m 1917 ls []) := by
  obtain ⟨g_v_0, g_v_1, g_v_2, g_v_3, g_v_4, g_v_5, g_v_6, g_v_7, g_v_8, g_v_9, g_v_10, g_v_11, g_v_12, g_v_13, g_v_14, g_v_15, g_v_17, g_f_2_0, g_f_4_0, g_f_5_0, g_f_6_0, g_f_7_0, g_f_8_0, g_f_9_0, g_f_11_0, g_f_18_0, g_f_19_0, g_pa_0, g_pa_1, g_pa_8, n_v_0, n_v_5, n_v_6, n_v_7, n_v_8, n_v_9, n_v_10, n_v_11, n_v_12, n_v_13, n_v_15, n_v_16, n_v_17, n_v_18, n_v_19, n_v_21, n_f_1_0, n_f_1_1, n_f_1_2, n_f_1_3, n_f_1_4, n_f_1_5, n_f_1_6, n_f_1_7, n_f_1_8, n_f_1_9, n_f_1_10, n_f_1_11, n_f_1_12, n_f_1_13, n_f_1_15, n_f_1_16, n_f_1_17, n_pb_0⟩ := hF
  obtain ⟨hx, hb, hr, hml, hown, hts, hX, hbl, hlocks, hgv⟩ := id C0
  subst hL
  have hL : (6 : Nat) = 6 := rfl
  have hA : ∀ q : Nat, s.heap.size ≤ q → (fun q : Nat => s.heap.size ≤ q) q := fun _ h => h
  have hbA : ¬ (fun q : Nat => s.heap.size ≤ q) b := Nat.not_le.mpr hbl
  have hts9 := fz_hts9 hts
  have hown : s.vm.findClass RL = some m.cls := hown
  have S0 : CallFix p m c code 9 s #[Value.ref b] (Cond.initialized RL :: fz_WA) RL := ⟨hx, hb, hml, hown, hts9⟩
  obtain ⟨x1, ex1⟩ : ∃ z, z = xs 1 := ⟨_, rfl⟩
  obtain ⟨x2, ex2⟩ : ∃ z, z = xs 2 := ⟨_, rfl⟩
  obtain ⟨x3, ex3⟩ : ∃ z, z = xs 3 := ⟨_, rfl⟩
  obtain ⟨x4, ex4⟩ : ∃ z, z = xs 4 := ⟨_, rfl⟩
  obtain ⟨x5, ex5⟩ : ∃ z, z = xs 5 := ⟨_, rfl⟩
  refine lv_aload_n hx hb dL_law_1917 rfl (lv_at hl 4 rfl) ?_
  refine lv_aload_n hx hb dL_law_1918 rfl (lv_at hl 5 rfl) ?_
  refine lv_iload hx hb dL_law_1919 (lv_at hl 0 rfl) ?_
  refine lv_iconst (v := 1) hx hb dL_law_1921 (by decide) ?_
  refine lv_iadd hx hb dL_law_1922 ?_
  refine fz_I (y := 1) (by decide) ?_
  refine va_sld hx hb hX hbl hbA hS (fz_vin (by decide)) dL_law_1923 ?_
  refine fz_I (y := x1) ex1.symm ?_
  refine lv_aload_n hx hb dL_law_1924 rfl (lv_at hl 5 rfl) ?_
  refine lv_iload hx hb dL_law_1925 (lv_at hl 0 rfl) ?_
  refine lv_iconst (v := 2) hx hb dL_law_1927 (by decide) ?_
  refine lv_iadd hx hb dL_law_1928 ?_
  refine fz_I (y := 2) (by decide) ?_
  refine va_sld hx hb hX hbl hbA hS (fz_vin (by decide)) dL_law_1929 ?_
  refine fz_I (y := x2) ex2.symm ?_
  refine lv_aload_n hx hb dL_law_1930 rfl (lv_at hl 2 rfl) ?_
  have hPc := hP.sub (ws' := (fz_WC k q f pa v ++ ([(o, .inl (k 5, 1, .inr (.inl g)))]))) [0, 1, 2, 3, 4, 5, 6, 7, 8, 9, 10, 11, 12, 13, 14, 15, 16, 17, 18, 19, 20, 21, 22, 23, 24, 25, 26, 27, 28, 29, 30, 31, 32, 33, 34, 35, 36, 37, 38] rfl
  have hDc : va_D (va_A (fz_WC k q f pa v ++ ([(o, .inl (k 5, 1, .inr (.inl g)))])) H.size) (fz_WC k q f pa v ++ ([(o, .inl (k 5, 1, .inr (.inl g)))])) := (hD.sub (ws' := (fz_WC k q f pa v ++ ([(o, .inl (k 5, 1, .inr (.inl g)))]))) [0, 1, 2, 3, 4, 5, 6, 7, 8, 9, 10, 11, 12, 13, 14, 15, 16, 17, 18, 19, 20, 21, 22, 23, 24, 25, 26, 27, 28, 29, 30, 31, 32, 33, 34, 35, 36, 37, 38] (by decide) rfl).self
  have hFc := va_free (wc := (fz_WC k q f pa v ++ ([(o, .inl (k 5, 1, .inr (.inl g)))]))) hD hS hA [0, 1, 2, 3, 4, 5, 6, 7, 8, 9, 10, 11, 12, 13, 14, 15, 16, 17, 18, 19, 20, 21, 22, 23, 24, 25, 26, 27, 28, 29, 30, 31, 32, 33, 34, 35, 36, 37, 38] rfl
  refine fz_hSi (As := [.ref (q 31), .int x1, .int x2, .ref o]) (rest := []) S0 (h_dayCount l hl0 (va_A (fz_WC k q f pa v ++ ([(o, .inl (k 5, 1, .inr (.inl g)))])) H.size) D k q f pa v o g x1 x2 g_v_8 g_v_2 g_f_2_0 g_f_7_0) (vx_cwSW 4 hts9 (fz_gSW fm_774 fm_973 fm_974 fm_816) rfl rfl rfl ⟨by decide, by decide, by decide +kernel⟩ ⟨Nat.le_of_ble_eq_true rfl, Nat.le_of_ble_eq_true rfl⟩) hFc (fun a9 h9 => Or.inr h9) hG hS hPc hK hDc rfl hl.1 rfl (Nat.le_of_ble_eq_true rfl) dL_law_1931 ⟨Nat.le_of_ble_eq_true rfl, Nat.le_of_ble_eq_true rfl⟩ (fun r_1 u_1 H locs hw hz1 hk1 hP1 hS => ?_)
  obtain ⟨hP, hD⟩ := va_join (wr := ([(o2, .inl (k 6, 1, .inr (.inr (.inr (.inl g2)))))] ++ (fz_WM k q2 f2 pa2 v2))) (w1 := ([(o, .inl (k 5, 1, .inr (.inl u_1)))])) hP hD [0, 1, 2, 3, 4, 5, 6, 7, 8, 9, 10, 11, 12, 13, 14, 15, 16, 17, 18, 19, 20, 21, 22, 23, 24, 25, 26, 27, 28, 29, 30, 31, 32, 33, 34, 35, 36, 37, 38] [39, 40, 41, 42, 43, 44, 45, 46, 47] rfl rfl (by decide) (by decide) hk1 hFc hP1 (fz_Dsame (hDc.sub (ws' := [(o, .inl (k 5, 1, .inr (.inl g)))]) [38] (by decide) rfl) rfl)
  have hP : va_P D vwCl ([(o2, .inl (k 6, 1, .inr (.inr (.inr (.inl g2)))))] ++ (fz_WM k q2 f2 pa2 v2 ++ ([(o, .inl (k 5, 1, .inr (.inl u_1)))]))) H := hP
  have hD : va_D (fun q : Nat => s.heap.size ≤ q) ([(o2, .inl (k 6, 1, .inr (.inr (.inr (.inl g2)))))] ++ (fz_WM k q2 f2 pa2 v2 ++ ([(o, .inl (k 5, 1, .inr (.inl u_1)))]))) := hD
  rcases hw with ⟨rfl, hu_1, hc_1⟩ | ⟨rfl, hc_1⟩
  · skip
    refine lv_istore (lv' := [(6, .int 0), (5, .int 0), (4, .ref o2), (3, .ref o), (2, .ref (q2 0)), (1, .ref (q 31)), (0, .ref b)]) hx hb dL_law_1934 hl (by decide) rfl (fun ls hl => ?_)
    refine lv_aload_n hx hb dL_law_1936 rfl (lv_at hl 4 rfl) ?_
    refine lv_aload_n hx hb dL_law_1937 rfl (lv_at hl 6 rfl) ?_
    refine lv_iload hx hb dL_law_1938 (lv_at hl 1 rfl) ?_
    refine lv_iconst (v := 1) hx hb dL_law_1940 (by decide) ?_
    refine lv_iadd hx hb dL_law_1941 ?_
    refine fz_I (y := 1) (by decide) ?_
    refine va_sld hx hb hX hbl hbA hS (fz_vin (by decide)) dL_law_1942 ?_
    refine fz_I (y := x1) ex1.symm ?_
    refine lv_aload_n hx hb dL_law_1943 rfl (lv_at hl 6 rfl) ?_
    refine lv_iload hx hb dL_law_1944 (lv_at hl 1 rfl) ?_
    refine lv_iconst (v := 2) hx hb dL_law_1946 (by decide) ?_
    refine lv_iadd hx hb dL_law_1947 ?_
    refine fz_I (y := 2) (by decide) ?_
    refine va_sld hx hb hX hbl hbA hS (fz_vin (by decide)) dL_law_1948 ?_
    refine fz_I (y := x2) ex2.symm ?_
    have hPc := hP.sub (ws' := (fz_WM k q2 f2 pa2 v2)) [1, 2, 3, 4, 5, 6, 7, 8] rfl
    have hDc : va_D (va_A (fz_WM k q2 f2 pa2 v2) H.size) (fz_WM k q2 f2 pa2 v2) := (hD.sub (ws' := (fz_WM k q2 f2 pa2 v2)) [1, 2, 3, 4, 5, 6, 7, 8] (by decide) rfl).self
    have hFc := va_free (wc := (fz_WM k q2 f2 pa2 v2)) hD hS hA [1, 2, 3, 4, 5, 6, 7, 8] rfl
    refine fz_cVi (As := [.int x1, .int x2]) (rest := []) S0 (m_p_dayCount l (va_A (fz_WM k q2 f2 pa2 v2) H.size) D k q2 f2 pa2 v2 x1 x2 n_f_1_0 n_f_1_7 n_f_1_10 n_f_1_4) (fz_cwV (C := RX10) 2 hts9 fm_975 fm_976 fm_977 fm_978 fm_469 rfl rfl ⟨by decide, by decide, by decide +kernel⟩ ⟨Nat.le_of_ble_eq_true rfl, Nat.le_of_ble_eq_true rfl⟩) (va_recv hK hPc (ci := 14) (q0 := 0) rfl rfl) hFc (fun a9 h9 => Or.inr h9) hG hS hPc hK hDc rfl hl.1 rfl (Nat.le_of_ble_eq_true rfl) dL_law_1949 ⟨Nat.le_of_ble_eq_true rfl, Nat.le_of_ble_eq_true rfl⟩ (fun r_2 u_2 H locs hw hz1 hk1 hP1 hS => ?_)
    obtain ⟨hP, hD⟩ := va_join (wr := ([(o2, .inl (k 6, 1, .inr (.inr (.inr (.inl g2)))))] ++ ([(o, .inl (k 5, 1, .inr (.inl u_1)))]))) (w1 := (fz_MO q2 u_2)) hP hD [1, 2, 3, 4, 5, 6, 7, 8] [0, 9] rfl rfl (by decide) (by decide) hk1 hFc hP1 (fz_Dsame (hDc.sub (ws' := fz_MO q2 v2) [0] (by decide) rfl) rfl)
    have hP : va_P D vwCl ([(o2, .inl (k 6, 1, .inr (.inr (.inr (.inl g2)))))] ++ ([(o, .inl (k 5, 1, .inr (.inl u_1)))] ++ (fz_MO q2 u_2))) H := hP
    have hD : va_D (fun q : Nat => s.heap.size ≤ q) ([(o2, .inl (k 6, 1, .inr (.inr (.inr (.inl g2)))))] ++ ([(o, .inl (k 5, 1, .inr (.inl u_1)))] ++ (fz_MO q2 u_2))) := hD
    rcases hw with ⟨rfl, ht_2, hc_2⟩ | ⟨rfl, ht_2, hc_2⟩
    · skip
      exact (fq_250 x1 x2 hc_1 hc_2).elim
    · skip
      refine lv_istore (lv' := [(7, .int 0), (6, .int 0), (5, .int 0), (4, .ref o2), (3, .ref o), (2, .ref (q2 0)), (1, .ref (q 31)), (0, .ref b)]) hx hb dL_law_1952 hl (by decide) rfl (fun ls hl => ?_)
      refine lv_aload_n hx hb dL_law_1954 rfl (lv_at hl 5 rfl) ?_
      have hPc := hP.sub (ws' := (fz_MO q2 u_2)) [2] rfl
      have hDc : va_D (va_A (fz_MO q2 u_2) H.size) (fz_MO q2 u_2) := (hD.sub (ws' := (fz_MO q2 u_2)) [2] (by decide) rfl).self
      have hFc := va_free (wc := (fz_MO q2 u_2)) hD hS hA [2] rfl
      refine fz_cVi (As := []) (rest := []) S0 (m_thrown l (va_A (fz_MO q2 u_2) H.size) D k q2 u_2) (fz_cwV (C := RX10) 0 hts9 fm_823 fm_824 fm_825 fm_826 fm_469 rfl rfl ⟨by decide, by decide, by decide +kernel⟩ ⟨Nat.le_of_ble_eq_true rfl, Nat.le_of_ble_eq_true rfl⟩) (va_recv hK hPc (ci := 14) (q0 := 0) rfl rfl) hFc (fun a9 h9 => Or.inr h9) hG hS hPc hK hDc rfl hl.1 rfl (Nat.le_of_ble_eq_true rfl) dL_law_1955 ⟨Nat.le_of_ble_eq_true rfl, Nat.le_of_ble_eq_true rfl⟩ (fun r_3 u_3 H locs hw hz1 hk1 hP1 hS => ?_)
      obtain ⟨hP, hD⟩ := va_join (wr := ([(o2, .inl (k 6, 1, .inr (.inr (.inr (.inl g2)))))] ++ ([(o, .inl (k 5, 1, .inr (.inl u_1)))]))) (w1 := (fz_MO q2 u_2)) hP hD [2] [0, 1] rfl rfl (by decide) (by decide) hk1 hFc hP1 hDc
      have hP : va_P D vwCl ([(o2, .inl (k 6, 1, .inr (.inr (.inr (.inl g2)))))] ++ ([(o, .inl (k 5, 1, .inr (.inl u_1)))] ++ (fz_MO q2 u_2))) H := hP
      have hD : va_D (fun q : Nat => s.heap.size ≤ q) ([(o2, .inl (k 6, 1, .inr (.inr (.inr (.inl g2)))))] ++ ([(o, .inl (k 5, 1, .inr (.inl u_1)))] ++ (fz_MO q2 u_2))) := hD
      obtain rfl : r_3 = u_2 0 := hw
      refine fz_I (y := 0) ht_2 ?_
      refine lv_iload hx hb dL_law_1958 (lv_at hl 1 rfl) ?_
      refine lv_icmp_eq (tgt := 1965) hx hb dL_law_1960 (by decide) (fun c9 => ?_) (fun c9 => absurd (by decide) c9)
      refine lv_iload hx hb dL_law_1965 (lv_at hl 1 rfl) ?_
      refine lv_if_ne (tgt := 1982) hx hb dL_law_1967 (by decide) (fun c9 => absurd (by decide) c9) (fun c9 => ?_)
      refine lv_aload_n hx hb dL_law_1970 rfl (lv_at hl 4 rfl) ?_
      refine lv_iconst (v := 0) hx hb dL_law_1971 (by decide) ?_
      refine va_lald hx hb hK hP 1 5 rfl rfl (fz_vin (by decide)) dL_law_1972 ?_
      refine fz_V (y := .long ((0 : Int32).toInt64)) (congrArg Value.long hu_1) ?_
      refine lv_iload hx hb dL_law_1973 (lv_at hl 0 rfl) ?_
      refine lv_i2l (v := (0 : Int32).toInt64) hx hb dL_law_1975 rfl ?_
      refine W.lcmp hx hb dL_law_1976 ?_
      refine fz_I (y := 0) (by decide) ?_
      refine lv_if_eq (tgt := 1982) hx hb dL_law_1977 (by decide) (fun c9 => ?_) (fun c9 => absurd (by decide) c9)
      refine lv_goto (tgt := 2457) hx hb dL_law_1982 (by decide) ?_
      exact lw_tail hL C0 (Nat.le_of_ble_eq_true rfl) (Nat.le_of_ble_eq_true rfl) hS ls (lv_sub hl [2, 7] rfl)
  · skip
    refine lv_istore (lv' := [(6, .int 1), (5, .int 0), (4, .ref o2), (3, .ref o), (2, .ref (q2 0)), (1, .ref (q 31)), (0, .ref b)]) hx hb dL_law_1934 hl (by decide) rfl (fun ls hl => ?_)
    refine lv_aload_n hx hb dL_law_1936 rfl (lv_at hl 4 rfl) ?_
    refine lv_aload_n hx hb dL_law_1937 rfl (lv_at hl 6 rfl) ?_
    refine lv_iload hx hb dL_law_1938 (lv_at hl 1 rfl) ?_
    refine lv_iconst (v := 1) hx hb dL_law_1940 (by decide) ?_
    refine lv_iadd hx hb dL_law_1941 ?_
    refine fz_I (y := 1) (by decide) ?_
    refine va_sld hx hb hX hbl hbA hS (fz_vin (by decide)) dL_law_1942 ?_
    refine fz_I (y := x1) ex1.symm ?_
    refine lv_aload_n hx hb dL_law_1943 rfl (lv_at hl 6 rfl) ?_
    refine lv_iload hx hb dL_law_1944 (lv_at hl 1 rfl) ?_
    refine lv_iconst (v := 2) hx hb dL_law_1946 (by decide) ?_
    refine lv_iadd hx hb dL_law_1947 ?_
    refine fz_I (y := 2) (by decide) ?_
    refine va_sld hx hb hX hbl hbA hS (fz_vin (by decide)) dL_law_1948 ?_
    refine fz_I (y := x2) ex2.symm ?_
    have hPc := hP.sub (ws' := (fz_WM k q2 f2 pa2 v2)) [1, 2, 3, 4, 5, 6, 7, 8] rfl
    have hDc : va_D (va_A (fz_WM k q2 f2 pa2 v2) H.size) (fz_WM k q2 f2 pa2 v2) := (hD.sub (ws' := (fz_WM k q2 f2 pa2 v2)) [1, 2, 3, 4, 5, 6, 7, 8] (by decide) rfl).self
    have hFc := va_free (wc := (fz_WM k q2 f2 pa2 v2)) hD hS hA [1, 2, 3, 4, 5, 6, 7, 8] rfl
    refine fz_cVi (As := [.int x1, .int x2]) (rest := []) S0 (m_p_dayCount l (va_A (fz_WM k q2 f2 pa2 v2) H.size) D k q2 f2 pa2 v2 x1 x2 n_f_1_0 n_f_1_7 n_f_1_10 n_f_1_4) (fz_cwV (C := RX10) 2 hts9 fm_975 fm_976 fm_977 fm_978 fm_469 rfl rfl ⟨by decide, by decide, by decide +kernel⟩ ⟨Nat.le_of_ble_eq_true rfl, Nat.le_of_ble_eq_true rfl⟩) (va_recv hK hPc (ci := 14) (q0 := 0) rfl rfl) hFc (fun a9 h9 => Or.inr h9) hG hS hPc hK hDc rfl hl.1 rfl (Nat.le_of_ble_eq_true rfl) dL_law_1949 ⟨Nat.le_of_ble_eq_true rfl, Nat.le_of_ble_eq_true rfl⟩ (fun r_2 u_2 H locs hw hz1 hk1 hP1 hS => ?_)
    obtain ⟨hP, hD⟩ := va_join (wr := ([(o2, .inl (k 6, 1, .inr (.inr (.inr (.inl g2)))))] ++ ([(o, .inl (k 5, 1, .inr (.inl u_1)))]))) (w1 := (fz_MO q2 u_2)) hP hD [1, 2, 3, 4, 5, 6, 7, 8] [0, 9] rfl rfl (by decide) (by decide) hk1 hFc hP1 (fz_Dsame (hDc.sub (ws' := fz_MO q2 v2) [0] (by decide) rfl) rfl)
    have hP : va_P D vwCl ([(o2, .inl (k 6, 1, .inr (.inr (.inr (.inl g2)))))] ++ ([(o, .inl (k 5, 1, .inr (.inl u_1)))] ++ (fz_MO q2 u_2))) H := hP
    have hD : va_D (fun q : Nat => s.heap.size ≤ q) ([(o2, .inl (k 6, 1, .inr (.inr (.inr (.inl g2)))))] ++ ([(o, .inl (k 5, 1, .inr (.inl u_1)))] ++ (fz_MO q2 u_2))) := hD
    rcases hw with ⟨rfl, ht_2, hc_2⟩ | ⟨rfl, ht_2, hc_2⟩
    · skip
      refine lv_istore (lv' := [(7, .int 0), (6, .int 1), (5, .int 0), (4, .ref o2), (3, .ref o), (2, .ref (q2 0)), (1, .ref (q 31)), (0, .ref b)]) hx hb dL_law_1952 hl (by decide) rfl (fun ls hl => ?_)
      refine lv_aload_n hx hb dL_law_1954 rfl (lv_at hl 5 rfl) ?_
      have hPc := hP.sub (ws' := (fz_MO q2 u_2)) [2] rfl
      have hDc : va_D (va_A (fz_MO q2 u_2) H.size) (fz_MO q2 u_2) := (hD.sub (ws' := (fz_MO q2 u_2)) [2] (by decide) rfl).self
      have hFc := va_free (wc := (fz_MO q2 u_2)) hD hS hA [2] rfl
      refine fz_cVi (As := []) (rest := []) S0 (m_thrown l (va_A (fz_MO q2 u_2) H.size) D k q2 u_2) (fz_cwV (C := RX10) 0 hts9 fm_823 fm_824 fm_825 fm_826 fm_469 rfl rfl ⟨by decide, by decide, by decide +kernel⟩ ⟨Nat.le_of_ble_eq_true rfl, Nat.le_of_ble_eq_true rfl⟩) (va_recv hK hPc (ci := 14) (q0 := 0) rfl rfl) hFc (fun a9 h9 => Or.inr h9) hG hS hPc hK hDc rfl hl.1 rfl (Nat.le_of_ble_eq_true rfl) dL_law_1955 ⟨Nat.le_of_ble_eq_true rfl, Nat.le_of_ble_eq_true rfl⟩ (fun r_3 u_3 H locs hw hz1 hk1 hP1 hS => ?_)
      obtain ⟨hP, hD⟩ := va_join (wr := ([(o2, .inl (k 6, 1, .inr (.inr (.inr (.inl g2)))))] ++ ([(o, .inl (k 5, 1, .inr (.inl u_1)))]))) (w1 := (fz_MO q2 u_2)) hP hD [2] [0, 1] rfl rfl (by decide) (by decide) hk1 hFc hP1 hDc
      have hP : va_P D vwCl ([(o2, .inl (k 6, 1, .inr (.inr (.inr (.inl g2)))))] ++ ([(o, .inl (k 5, 1, .inr (.inl u_1)))] ++ (fz_MO q2 u_2))) H := hP
      have hD : va_D (fun q : Nat => s.heap.size ≤ q) ([(o2, .inl (k 6, 1, .inr (.inr (.inr (.inl g2)))))] ++ ([(o, .inl (k 5, 1, .inr (.inl u_1)))] ++ (fz_MO q2 u_2))) := hD
      obtain rfl : r_3 = u_2 0 := hw
      refine fz_I (y := 1) ht_2 ?_
      refine lv_iload hx hb dL_law_1958 (lv_at hl 1 rfl) ?_
      refine lv_icmp_eq (tgt := 1965) hx hb dL_law_1960 (by decide) (fun c9 => ?_) (fun c9 => absurd (by decide) c9)
      refine lv_iload hx hb dL_law_1965 (lv_at hl 1 rfl) ?_
      refine lv_if_ne (tgt := 1982) hx hb dL_law_1967 (by decide) (fun c9 => ?_) (fun c9 => absurd c9 (by decide))
      refine lv_goto (tgt := 2457) hx hb dL_law_1982 (by decide) ?_
      exact lw_tail hL C0 (Nat.le_of_ble_eq_true rfl) (Nat.le_of_ble_eq_true rfl) hS ls (lv_sub hl [2, 7] rfl)
    · skip
      exact (fq_251 x1 x2 hc_1 hc_2).elim

set_option maxHeartbeats 8000000 in
set_option maxRecDepth 100000 in
theorem lw_case27 {p : Program} {l : Launch} {e : Env} {s : State} {m : MethodId} {below : List Frame} {meth : Method} {c : Code} {D : va_G} {b L : Nat} {xs : Nat → Int32} (hl0 : l.stackTraces = false) (hL : L = 6) (C0 : lw_At p s m meth c b L xs) (hG : fz_GS (fun q : Nat => s.heap.size ≤ q) s) (k : Nat → ClassId) (hK : va_K D vwCl (fz_tys k) s) (q q2 : Nat → Nat) (f f2 : Nat → Nat → Int32) (pa pa2 : Nat → Option Nat) (v v2 : Nat → Int32) (o o2 : Nat) (g : Nat → Int64) (g2 : Nat → UInt64) (hF : fz_LF q2 f pa v f2 pa2 v2) (H : Heap) (locs : List Loc) (hP : va_P D vwCl (fz_WC k q f pa v ++ ([(o, .inl (k 5, 1, .inr (.inl g)))] ++ ([(o2, .inl (k 6, 1, .inr (.inr (.inr (.inl g2)))))] ++ (fz_WM k q2 f2 pa2 v2)))) H) (hD : va_D (fun q : Nat => s.heap.size ≤ q) (fz_WC k q f pa v ++ ([(o, .inl (k 5, 1, .inr (.inl g)))] ++ ([(o2, .inl (k 6, 1, .inr (.inr (.inr (.inl g2)))))] ++ (fz_WM k q2 f2 pa2 v2))))) (hS : va_S (fun q : Nat => s.heap.size ≤ q) s.heap H locs) (ls : Array Slot) (hl : lv_has ls 9 [(5, .int 0), (4, .ref o2), (3, .ref o), (2, .ref (q2 0)), (1, .ref (q 31)), (0, .ref b)]) :
    W p l e room_1 s m #[Value.ref b] below meth c H locs 2000 400000 (lw_Z below #[Value.ref b] s) (F0 m 1985 ls []) := by
  obtain ⟨g_v_0, g_v_1, g_v_2, g_v_3, g_v_4, g_v_5, g_v_6, g_v_7, g_v_8, g_v_9, g_v_10, g_v_11, g_v_12, g_v_13, g_v_14, g_v_15, g_v_17, g_f_2_0, g_f_4_0, g_f_5_0, g_f_6_0, g_f_7_0, g_f_8_0, g_f_9_0, g_f_11_0, g_f_18_0, g_f_19_0, g_pa_0, g_pa_1, g_pa_8, n_v_0, n_v_5, n_v_6, n_v_7, n_v_8, n_v_9, n_v_10, n_v_11, n_v_12, n_v_13, n_v_15, n_v_16, n_v_17, n_v_18, n_v_19, n_v_21, n_f_1_0, n_f_1_1, n_f_1_2, n_f_1_3, n_f_1_4, n_f_1_5, n_f_1_6, n_f_1_7, n_f_1_8, n_f_1_9, n_f_1_10, n_f_1_11, n_f_1_12, n_f_1_13, n_f_1_15, n_f_1_16, n_f_1_17, n_pb_0⟩ := hF
  obtain ⟨hx, hb, hr, hml, hown, hts, hX, hbl, hlocks, hgv⟩ := id C0
  subst hL
  have hL : (6 : Nat) = 6 := rfl
  have hA : ∀ q : Nat, s.heap.size ≤ q → (fun q : Nat => s.heap.size ≤ q) q := fun _ h => h
  have hbA : ¬ (fun q : Nat => s.heap.size ≤ q) b := Nat.not_le.mpr hbl
  have hts9 := fz_hts9 hts
  have hown : s.vm.findClass RL = some m.cls := hown
  have S0 : CallFix p m c code 9 s #[Value.ref b] (Cond.initialized RL :: fz_WA) RL := ⟨hx, hb, hml, hown, hts9⟩
  obtain ⟨x1, ex1⟩ : ∃ z, z = xs 1 := ⟨_, rfl⟩
  obtain ⟨x2, ex2⟩ : ∃ z, z = xs 2 := ⟨_, rfl⟩
  obtain ⟨x3, ex3⟩ : ∃ z, z = xs 3 := ⟨_, rfl⟩
  obtain ⟨x4, ex4⟩ : ∃ z, z = xs 4 := ⟨_, rfl⟩
  obtain ⟨x5, ex5⟩ : ∃ z, z = xs 5 := ⟨_, rfl⟩
  refine lv_aload_n hx hb dL_law_1985 rfl (lv_at hl 4 rfl) ?_
  refine lv_aload_n hx hb dL_law_1986 rfl (lv_at hl 5 rfl) ?_
  refine lv_iload hx hb dL_law_1987 (lv_at hl 0 rfl) ?_
  refine lv_iconst (v := 1) hx hb dL_law_1989 (by decide) ?_
  refine lv_iadd hx hb dL_law_1990 ?_
  refine fz_I (y := 1) (by decide) ?_
  refine va_sld hx hb hX hbl hbA hS (fz_vin (by decide)) dL_law_1991 ?_
  refine fz_I (y := x1) ex1.symm ?_
  refine lv_aload hx hb dL_law_1992 (lv_at hl 1 rfl) ?_
  have hPc := hP.sub (ws' := (fz_WC k q f pa v ++ ([(o2, .inl (k 6, 1, .inr (.inr (.inr (.inl g2)))))]))) [0, 1, 2, 3, 4, 5, 6, 7, 8, 9, 10, 11, 12, 13, 14, 15, 16, 17, 18, 19, 20, 21, 22, 23, 24, 25, 26, 27, 28, 29, 30, 31, 32, 33, 34, 35, 36, 37, 39] rfl
  have hDc : va_D (va_A (fz_WC k q f pa v ++ ([(o2, .inl (k 6, 1, .inr (.inr (.inr (.inl g2)))))])) H.size) (fz_WC k q f pa v ++ ([(o2, .inl (k 6, 1, .inr (.inr (.inr (.inl g2)))))])) := (hD.sub (ws' := (fz_WC k q f pa v ++ ([(o2, .inl (k 6, 1, .inr (.inr (.inr (.inl g2)))))]))) [0, 1, 2, 3, 4, 5, 6, 7, 8, 9, 10, 11, 12, 13, 14, 15, 16, 17, 18, 19, 20, 21, 22, 23, 24, 25, 26, 27, 28, 29, 30, 31, 32, 33, 34, 35, 36, 37, 39] (by decide) rfl).self
  have hFc := va_free (wc := (fz_WC k q f pa v ++ ([(o2, .inl (k 6, 1, .inr (.inr (.inr (.inl g2)))))]))) hD hS hA [0, 1, 2, 3, 4, 5, 6, 7, 8, 9, 10, 11, 12, 13, 14, 15, 16, 17, 18, 19, 20, 21, 22, 23, 24, 25, 26, 27, 28, 29, 30, 31, 32, 33, 34, 35, 36, 37, 39] rfl
  refine fz_hSi (As := [.ref (q 31), .int x1, .ref o2]) (rest := []) S0 (h_openShare l hl0 (va_A (fz_WC k q f pa v ++ ([(o2, .inl (k 6, 1, .inr (.inr (.inr (.inl g2)))))])) H.size) D k q f pa v o2 g2 x1 g_v_2 g_f_6_0 g_f_2_0 g_f_7_0) (vx_cwSW 3 hts9 (fz_gSW fm_779 fm_979 fm_980 fm_816) rfl rfl rfl ⟨by decide, by decide, by decide +kernel⟩ ⟨Nat.le_of_ble_eq_true rfl, Nat.le_of_ble_eq_true rfl⟩) hFc (fun a9 h9 => Or.inr h9) hG hS hPc hK hDc rfl hl.1 rfl (Nat.le_of_ble_eq_true rfl) dL_law_1994 ⟨Nat.le_of_ble_eq_true rfl, Nat.le_of_ble_eq_true rfl⟩ (fun r_1 u_1 H locs hw hz1 hk1 hP1 hS => ?_)
  obtain ⟨hP, hD⟩ := va_join (wr := ([(o, .inl (k 5, 1, .inr (.inl g)))] ++ (fz_WM k q2 f2 pa2 v2))) (w1 := ([(o2, .inl (k 6, 1, .inr (.inr (.inr (.inl u_1)))))])) hP hD [0, 1, 2, 3, 4, 5, 6, 7, 8, 9, 10, 11, 12, 13, 14, 15, 16, 17, 18, 19, 20, 21, 22, 23, 24, 25, 26, 27, 28, 29, 30, 31, 32, 33, 34, 35, 36, 37, 39] [38, 40, 41, 42, 43, 44, 45, 46, 47] rfl rfl (by decide) (by decide) hk1 hFc hP1 (fz_Dsame (hDc.sub (ws' := [(o2, .inl (k 6, 1, .inr (.inr (.inr (.inl g2)))))]) [38] (by decide) rfl) rfl)
  have hP : va_P D vwCl ([(o, .inl (k 5, 1, .inr (.inl g)))] ++ (fz_WM k q2 f2 pa2 v2 ++ ([(o2, .inl (k 6, 1, .inr (.inr (.inr (.inl u_1)))))]))) H := hP
  have hD : va_D (fun q : Nat => s.heap.size ≤ q) ([(o, .inl (k 5, 1, .inr (.inl g)))] ++ (fz_WM k q2 f2 pa2 v2 ++ ([(o2, .inl (k 6, 1, .inr (.inr (.inr (.inl u_1)))))]))) := hD
  rcases hw with ⟨rfl, hc_1⟩ | ⟨rfl, hc_1⟩
  · skip
    refine lv_istore (lv' := [(6, .int 1), (5, .int 0), (4, .ref o2), (3, .ref o), (2, .ref (q2 0)), (1, .ref (q 31)), (0, .ref b)]) hx hb dL_law_1997 hl (by decide) rfl (fun ls hl => ?_)
    refine lv_aload_n hx hb dL_law_1999 rfl (lv_at hl 4 rfl) ?_
    refine lv_aload_n hx hb dL_law_2000 rfl (lv_at hl 6 rfl) ?_
    refine lv_iload hx hb dL_law_2001 (lv_at hl 1 rfl) ?_
    refine lv_iconst (v := 1) hx hb dL_law_2003 (by decide) ?_
    refine lv_iadd hx hb dL_law_2004 ?_
    refine fz_I (y := 1) (by decide) ?_
    refine va_sld hx hb hX hbl hbA hS (fz_vin (by decide)) dL_law_2005 ?_
    refine fz_I (y := x1) ex1.symm ?_
    have hPc := hP.sub (ws' := (fz_WM k q2 f2 pa2 v2)) [1, 2, 3, 4, 5, 6, 7, 8] rfl
    have hDc : va_D (va_A (fz_WM k q2 f2 pa2 v2) H.size) (fz_WM k q2 f2 pa2 v2) := (hD.sub (ws' := (fz_WM k q2 f2 pa2 v2)) [1, 2, 3, 4, 5, 6, 7, 8] (by decide) rfl).self
    have hFc := va_free (wc := (fz_WM k q2 f2 pa2 v2)) hD hS hA [1, 2, 3, 4, 5, 6, 7, 8] rfl
    refine fz_cVd (As := [.int x1]) (rest := []) S0 (m_p_openShare l (va_A (fz_WM k q2 f2 pa2 v2) H.size) D k q2 f2 pa2 v2 x1 n_f_1_0 n_f_1_7 n_f_1_10) (fz_cwV (C := RX10) 1 hts9 fm_981 fm_982 fm_983 fm_984 fm_469 rfl rfl ⟨by decide, by decide, by decide +kernel⟩ ⟨Nat.le_of_ble_eq_true rfl, Nat.le_of_ble_eq_true rfl⟩) (va_recv hK hPc (ci := 14) (q0 := 0) rfl rfl) hFc (fun a9 h9 => Or.inr h9) hG hS hPc hK hDc rfl hl.1 rfl (Nat.le_of_ble_eq_true rfl) dL_law_2006 ⟨Nat.le_of_ble_eq_true rfl, Nat.le_of_ble_eq_true rfl⟩ (fun r_2 u_2 H locs hw hz1 hk1 hP1 hS => ?_)
    obtain ⟨hP, hD⟩ := va_join (wr := ([(o, .inl (k 5, 1, .inr (.inl g)))] ++ ([(o2, .inl (k 6, 1, .inr (.inr (.inr (.inl u_1)))))]))) (w1 := (fz_MO q2 u_2)) hP hD [1, 2, 3, 4, 5, 6, 7, 8] [0, 9] rfl rfl (by decide) (by decide) hk1 hFc hP1 (fz_Dsame (hDc.sub (ws' := fz_MO q2 v2) [0] (by decide) rfl) rfl)
    have hP : va_P D vwCl ([(o, .inl (k 5, 1, .inr (.inl g)))] ++ ([(o2, .inl (k 6, 1, .inr (.inr (.inr (.inl u_1)))))] ++ (fz_MO q2 u_2))) H := hP
    have hD : va_D (fun q : Nat => s.heap.size ≤ q) ([(o, .inl (k 5, 1, .inr (.inl g)))] ++ ([(o2, .inl (k 6, 1, .inr (.inr (.inr (.inl u_1)))))] ++ (fz_MO q2 u_2))) := hD
    rcases hw with ⟨ht_2, hc_2⟩ | ⟨ht_2, hc_2⟩
    · skip
      refine lv_dstore (lv' := [(7, .double r_2), (6, .int 1), (5, .int 0), (4, .ref o2), (3, .ref o), (2, .ref (q2 0)), (1, .ref (q 31)), (0, .ref b)]) hx hb dL_law_2009 hl (by decide) rfl (fun ls hl => ?_)
      refine lv_aload_n hx hb dL_law_2011 rfl (lv_at hl 5 rfl) ?_
      have hPc := hP.sub (ws' := (fz_MO q2 u_2)) [2] rfl
      have hDc : va_D (va_A (fz_MO q2 u_2) H.size) (fz_MO q2 u_2) := (hD.sub (ws' := (fz_MO q2 u_2)) [2] (by decide) rfl).self
      have hFc := va_free (wc := (fz_MO q2 u_2)) hD hS hA [2] rfl
      refine fz_cVi (As := []) (rest := []) S0 (m_thrown l (va_A (fz_MO q2 u_2) H.size) D k q2 u_2) (fz_cwV (C := RX10) 0 hts9 fm_823 fm_824 fm_825 fm_826 fm_469 rfl rfl ⟨by decide, by decide, by decide +kernel⟩ ⟨Nat.le_of_ble_eq_true rfl, Nat.le_of_ble_eq_true rfl⟩) (va_recv hK hPc (ci := 14) (q0 := 0) rfl rfl) hFc (fun a9 h9 => Or.inr h9) hG hS hPc hK hDc rfl hl.1 rfl (Nat.le_of_ble_eq_true rfl) dL_law_2012 ⟨Nat.le_of_ble_eq_true rfl, Nat.le_of_ble_eq_true rfl⟩ (fun r_3 u_3 H locs hw hz1 hk1 hP1 hS => ?_)
      obtain ⟨hP, hD⟩ := va_join (wr := ([(o, .inl (k 5, 1, .inr (.inl g)))] ++ ([(o2, .inl (k 6, 1, .inr (.inr (.inr (.inl u_1)))))]))) (w1 := (fz_MO q2 u_2)) hP hD [2] [0, 1] rfl rfl (by decide) (by decide) hk1 hFc hP1 hDc
      have hP : va_P D vwCl ([(o, .inl (k 5, 1, .inr (.inl g)))] ++ ([(o2, .inl (k 6, 1, .inr (.inr (.inr (.inl u_1)))))] ++ (fz_MO q2 u_2))) H := hP
      have hD : va_D (fun q : Nat => s.heap.size ≤ q) ([(o, .inl (k 5, 1, .inr (.inl g)))] ++ ([(o2, .inl (k 6, 1, .inr (.inr (.inr (.inl u_1)))))] ++ (fz_MO q2 u_2))) := hD
      obtain rfl : r_3 = u_2 0 := hw
      refine fz_I (y := 1) ht_2 ?_
      refine lv_iload hx hb dL_law_2015 (lv_at hl 1 rfl) ?_
      refine lv_icmp_eq (tgt := 2022) hx hb dL_law_2017 (by decide) (fun c9 => ?_) (fun c9 => absurd (by decide) c9)
      refine lv_iload hx hb dL_law_2022 (lv_at hl 1 rfl) ?_
      refine lv_if_ne (tgt := 2059) hx hb dL_law_2024 (by decide) (fun c9 => ?_) (fun c9 => absurd c9 (by decide))
      refine lv_goto (tgt := 2457) hx hb dL_law_2059 (by decide) ?_
      exact lw_tail hL C0 (Nat.le_of_ble_eq_true rfl) (Nat.le_of_ble_eq_true rfl) hS ls (lv_sub hl [2, 7] rfl)
    · skip
      exact (fq_252 x1 hc_1 hc_2).elim
  · skip
    refine lv_istore (lv' := [(6, .int 2), (5, .int 0), (4, .ref o2), (3, .ref o), (2, .ref (q2 0)), (1, .ref (q 31)), (0, .ref b)]) hx hb dL_law_1997 hl (by decide) rfl (fun ls hl => ?_)
    refine lv_aload_n hx hb dL_law_1999 rfl (lv_at hl 4 rfl) ?_
    refine lv_aload_n hx hb dL_law_2000 rfl (lv_at hl 6 rfl) ?_
    refine lv_iload hx hb dL_law_2001 (lv_at hl 1 rfl) ?_
    refine lv_iconst (v := 1) hx hb dL_law_2003 (by decide) ?_
    refine lv_iadd hx hb dL_law_2004 ?_
    refine fz_I (y := 1) (by decide) ?_
    refine va_sld hx hb hX hbl hbA hS (fz_vin (by decide)) dL_law_2005 ?_
    refine fz_I (y := x1) ex1.symm ?_
    have hPc := hP.sub (ws' := (fz_WM k q2 f2 pa2 v2)) [1, 2, 3, 4, 5, 6, 7, 8] rfl
    have hDc : va_D (va_A (fz_WM k q2 f2 pa2 v2) H.size) (fz_WM k q2 f2 pa2 v2) := (hD.sub (ws' := (fz_WM k q2 f2 pa2 v2)) [1, 2, 3, 4, 5, 6, 7, 8] (by decide) rfl).self
    have hFc := va_free (wc := (fz_WM k q2 f2 pa2 v2)) hD hS hA [1, 2, 3, 4, 5, 6, 7, 8] rfl
    refine fz_cVd (As := [.int x1]) (rest := []) S0 (m_p_openShare l (va_A (fz_WM k q2 f2 pa2 v2) H.size) D k q2 f2 pa2 v2 x1 n_f_1_0 n_f_1_7 n_f_1_10) (fz_cwV (C := RX10) 1 hts9 fm_981 fm_982 fm_983 fm_984 fm_469 rfl rfl ⟨by decide, by decide, by decide +kernel⟩ ⟨Nat.le_of_ble_eq_true rfl, Nat.le_of_ble_eq_true rfl⟩) (va_recv hK hPc (ci := 14) (q0 := 0) rfl rfl) hFc (fun a9 h9 => Or.inr h9) hG hS hPc hK hDc rfl hl.1 rfl (Nat.le_of_ble_eq_true rfl) dL_law_2006 ⟨Nat.le_of_ble_eq_true rfl, Nat.le_of_ble_eq_true rfl⟩ (fun r_2 u_2 H locs hw hz1 hk1 hP1 hS => ?_)
    obtain ⟨hP, hD⟩ := va_join (wr := ([(o, .inl (k 5, 1, .inr (.inl g)))] ++ ([(o2, .inl (k 6, 1, .inr (.inr (.inr (.inl u_1)))))]))) (w1 := (fz_MO q2 u_2)) hP hD [1, 2, 3, 4, 5, 6, 7, 8] [0, 9] rfl rfl (by decide) (by decide) hk1 hFc hP1 (fz_Dsame (hDc.sub (ws' := fz_MO q2 v2) [0] (by decide) rfl) rfl)
    have hP : va_P D vwCl ([(o, .inl (k 5, 1, .inr (.inl g)))] ++ ([(o2, .inl (k 6, 1, .inr (.inr (.inr (.inl u_1)))))] ++ (fz_MO q2 u_2))) H := hP
    have hD : va_D (fun q : Nat => s.heap.size ≤ q) ([(o, .inl (k 5, 1, .inr (.inl g)))] ++ ([(o2, .inl (k 6, 1, .inr (.inr (.inr (.inl u_1)))))] ++ (fz_MO q2 u_2))) := hD
    rcases hw with ⟨ht_2, hc_2⟩ | ⟨ht_2, hc_2⟩
    · skip
      exact (fq_253 x1 hc_1 hc_2).elim
    · skip
      refine lv_dstore (lv' := [(7, .double r_2), (6, .int 2), (5, .int 0), (4, .ref o2), (3, .ref o), (2, .ref (q2 0)), (1, .ref (q 31)), (0, .ref b)]) hx hb dL_law_2009 hl (by decide) rfl (fun ls hl => ?_)
      refine lv_aload_n hx hb dL_law_2011 rfl (lv_at hl 5 rfl) ?_
      have hPc := hP.sub (ws' := (fz_MO q2 u_2)) [2] rfl
      have hDc : va_D (va_A (fz_MO q2 u_2) H.size) (fz_MO q2 u_2) := (hD.sub (ws' := (fz_MO q2 u_2)) [2] (by decide) rfl).self
      have hFc := va_free (wc := (fz_MO q2 u_2)) hD hS hA [2] rfl
      refine fz_cVi (As := []) (rest := []) S0 (m_thrown l (va_A (fz_MO q2 u_2) H.size) D k q2 u_2) (fz_cwV (C := RX10) 0 hts9 fm_823 fm_824 fm_825 fm_826 fm_469 rfl rfl ⟨by decide, by decide, by decide +kernel⟩ ⟨Nat.le_of_ble_eq_true rfl, Nat.le_of_ble_eq_true rfl⟩) (va_recv hK hPc (ci := 14) (q0 := 0) rfl rfl) hFc (fun a9 h9 => Or.inr h9) hG hS hPc hK hDc rfl hl.1 rfl (Nat.le_of_ble_eq_true rfl) dL_law_2012 ⟨Nat.le_of_ble_eq_true rfl, Nat.le_of_ble_eq_true rfl⟩ (fun r_3 u_3 H locs hw hz1 hk1 hP1 hS => ?_)
      obtain ⟨hP, hD⟩ := va_join (wr := ([(o, .inl (k 5, 1, .inr (.inl g)))] ++ ([(o2, .inl (k 6, 1, .inr (.inr (.inr (.inl u_1)))))]))) (w1 := (fz_MO q2 u_2)) hP hD [2] [0, 1] rfl rfl (by decide) (by decide) hk1 hFc hP1 hDc
      have hP : va_P D vwCl ([(o, .inl (k 5, 1, .inr (.inl g)))] ++ ([(o2, .inl (k 6, 1, .inr (.inr (.inr (.inl u_1)))))] ++ (fz_MO q2 u_2))) H := hP
      have hD : va_D (fun q : Nat => s.heap.size ≤ q) ([(o, .inl (k 5, 1, .inr (.inl g)))] ++ ([(o2, .inl (k 6, 1, .inr (.inr (.inr (.inl u_1)))))] ++ (fz_MO q2 u_2))) := hD
      obtain rfl : r_3 = u_2 0 := hw
      refine fz_I (y := 2) ht_2 ?_
      refine lv_iload hx hb dL_law_2015 (lv_at hl 1 rfl) ?_
      refine lv_icmp_eq (tgt := 2022) hx hb dL_law_2017 (by decide) (fun c9 => ?_) (fun c9 => absurd (by decide) c9)
      refine lv_iload hx hb dL_law_2022 (lv_at hl 1 rfl) ?_
      refine lv_if_ne (tgt := 2059) hx hb dL_law_2024 (by decide) (fun c9 => ?_) (fun c9 => absurd c9 (by decide))
      refine lv_goto (tgt := 2457) hx hb dL_law_2059 (by decide) ?_
      exact lw_tail hL C0 (Nat.le_of_ble_eq_true rfl) (Nat.le_of_ble_eq_true rfl) hS ls (lv_sub hl [2, 7] rfl)

set_option maxHeartbeats 8000000 in
set_option maxRecDepth 100000 in
theorem lw_case17 {p : Program} {l : Launch} {e : Env} {s : State} {m : MethodId} {below : List Frame} {meth : Method} {c : Code} {D : va_G} {b L : Nat} {xs : Nat → Int32} (hl0 : l.stackTraces = false) (hL : L = 6) (C0 : lw_At p s m meth c b L xs) (hG : fz_GS (fun q : Nat => s.heap.size ≤ q) s) (k : Nat → ClassId) (hK : va_K D vwCl (fz_tys k) s) (q q2 : Nat → Nat) (f f2 : Nat → Nat → Int32) (pa pa2 : Nat → Option Nat) (v v2 : Nat → Int32) (o o2 : Nat) (g : Nat → Int64) (g2 : Nat → UInt64) (hF : fz_LF q2 f pa v f2 pa2 v2) (H : Heap) (locs : List Loc) (hP : va_P D vwCl (fz_WC k q f pa v ++ ([(o, .inl (k 5, 1, .inr (.inl g)))] ++ ([(o2, .inl (k 6, 1, .inr (.inr (.inr (.inl g2)))))] ++ (fz_WM k q2 f2 pa2 v2)))) H) (hD : va_D (fun q : Nat => s.heap.size ≤ q) (fz_WC k q f pa v ++ ([(o, .inl (k 5, 1, .inr (.inl g)))] ++ ([(o2, .inl (k 6, 1, .inr (.inr (.inr (.inl g2)))))] ++ (fz_WM k q2 f2 pa2 v2))))) (hS : va_S (fun q : Nat => s.heap.size ≤ q) s.heap H locs) (ls : Array Slot) (hl : lv_has ls 9 [(5, .int 0), (4, .ref o2), (3, .ref o), (2, .ref (q2 0)), (1, .ref (q 31)), (0, .ref b)]) :
    W p l e room_1 s m #[Value.ref b] below meth c H locs 2000 400000 (lw_Z below #[Value.ref b] s) (F0 m 1384 ls []) := by
  obtain ⟨g_v_0, g_v_1, g_v_2, g_v_3, g_v_4, g_v_5, g_v_6, g_v_7, g_v_8, g_v_9, g_v_10, g_v_11, g_v_12, g_v_13, g_v_14, g_v_15, g_v_17, g_f_2_0, g_f_4_0, g_f_5_0, g_f_6_0, g_f_7_0, g_f_8_0, g_f_9_0, g_f_11_0, g_f_18_0, g_f_19_0, g_pa_0, g_pa_1, g_pa_8, n_v_0, n_v_5, n_v_6, n_v_7, n_v_8, n_v_9, n_v_10, n_v_11, n_v_12, n_v_13, n_v_15, n_v_16, n_v_17, n_v_18, n_v_19, n_v_21, n_f_1_0, n_f_1_1, n_f_1_2, n_f_1_3, n_f_1_4, n_f_1_5, n_f_1_6, n_f_1_7, n_f_1_8, n_f_1_9, n_f_1_10, n_f_1_11, n_f_1_12, n_f_1_13, n_f_1_15, n_f_1_16, n_f_1_17, n_pb_0⟩ := hF
  obtain ⟨hx, hb, hr, hml, hown, hts, hX, hbl, hlocks, hgv⟩ := id C0
  subst hL
  have hL : (6 : Nat) = 6 := rfl
  have hA : ∀ q : Nat, s.heap.size ≤ q → (fun q : Nat => s.heap.size ≤ q) q := fun _ h => h
  have hbA : ¬ (fun q : Nat => s.heap.size ≤ q) b := Nat.not_le.mpr hbl
  have hts9 := fz_hts9 hts
  have hown : s.vm.findClass RL = some m.cls := hown
  have S0 : CallFix p m c code 9 s #[Value.ref b] (Cond.initialized RL :: fz_WA) RL := ⟨hx, hb, hml, hown, hts9⟩
  obtain ⟨x1, ex1⟩ : ∃ z, z = xs 1 := ⟨_, rfl⟩
  obtain ⟨x2, ex2⟩ : ∃ z, z = xs 2 := ⟨_, rfl⟩
  obtain ⟨x3, ex3⟩ : ∃ z, z = xs 3 := ⟨_, rfl⟩
  obtain ⟨x4, ex4⟩ : ∃ z, z = xs 4 := ⟨_, rfl⟩
  obtain ⟨x5, ex5⟩ : ∃ z, z = xs 5 := ⟨_, rfl⟩
  refine lv_aload_n hx hb dL_law_1384 rfl (lv_at hl 4 rfl) ?_
  refine lv_aload_n hx hb dL_law_1385 rfl (lv_at hl 5 rfl) ?_
  refine lv_iload hx hb dL_law_1386 (lv_at hl 0 rfl) ?_
  refine lv_iconst (v := 1) hx hb dL_law_1388 (by decide) ?_
  refine lv_iadd hx hb dL_law_1389 ?_
  refine fz_I (y := 1) (by decide) ?_
  refine va_sld hx hb hX hbl hbA hS (fz_vin (by decide)) dL_law_1390 ?_
  refine fz_I (y := x1) ex1.symm ?_
  refine lv_aload_n hx hb dL_law_1391 rfl (lv_at hl 5 rfl) ?_
  refine lv_iload hx hb dL_law_1392 (lv_at hl 0 rfl) ?_
  refine lv_iconst (v := 2) hx hb dL_law_1394 (by decide) ?_
  refine lv_iadd hx hb dL_law_1395 ?_
  refine fz_I (y := 2) (by decide) ?_
  refine va_sld hx hb hX hbl hbA hS (fz_vin (by decide)) dL_law_1396 ?_
  refine fz_I (y := x2) ex2.symm ?_
  refine lv_aload_n hx hb dL_law_1397 rfl (lv_at hl 2 rfl) ?_
  have hPc := hP.sub (ws' := (fz_WC k q f pa v ++ ([(o, .inl (k 5, 1, .inr (.inl g)))]))) [0, 1, 2, 3, 4, 5, 6, 7, 8, 9, 10, 11, 12, 13, 14, 15, 16, 17, 18, 19, 20, 21, 22, 23, 24, 25, 26, 27, 28, 29, 30, 31, 32, 33, 34, 35, 36, 37, 38] rfl
  have hDc : va_D (va_A (fz_WC k q f pa v ++ ([(o, .inl (k 5, 1, .inr (.inl g)))])) H.size) (fz_WC k q f pa v ++ ([(o, .inl (k 5, 1, .inr (.inl g)))])) := (hD.sub (ws' := (fz_WC k q f pa v ++ ([(o, .inl (k 5, 1, .inr (.inl g)))]))) [0, 1, 2, 3, 4, 5, 6, 7, 8, 9, 10, 11, 12, 13, 14, 15, 16, 17, 18, 19, 20, 21, 22, 23, 24, 25, 26, 27, 28, 29, 30, 31, 32, 33, 34, 35, 36, 37, 38] (by decide) rfl).self
  have hFc := va_free (wc := (fz_WC k q f pa v ++ ([(o, .inl (k 5, 1, .inr (.inl g)))]))) hD hS hA [0, 1, 2, 3, 4, 5, 6, 7, 8, 9, 10, 11, 12, 13, 14, 15, 16, 17, 18, 19, 20, 21, 22, 23, 24, 25, 26, 27, 28, 29, 30, 31, 32, 33, 34, 35, 36, 37, 38] rfl
  refine fz_hSi (As := [.ref (q 31), .int x1, .int x2, .ref o]) (rest := []) S0 (h_resolve l hl0 (va_A (fz_WC k q f pa v ++ ([(o, .inl (k 5, 1, .inr (.inl g)))])) H.size) D k q f pa v o g x1 x2 g_v_6 g_v_1 g_f_4_0) (vx_cwSW 4 hts9 (fz_gSW fm_1036 fm_1048 fm_1049 fm_816) rfl rfl rfl ⟨by decide, by decide, by decide +kernel⟩ ⟨Nat.le_of_ble_eq_true rfl, Nat.le_of_ble_eq_true rfl⟩) hFc (fun a9 h9 => Or.inr h9) hG hS hPc hK hDc rfl hl.1 rfl (Nat.le_of_ble_eq_true rfl) dL_law_1398 ⟨Nat.le_of_ble_eq_true rfl, Nat.le_of_ble_eq_true rfl⟩ (fun r_1 u_1 H locs hw hz1 hk1 hP1 hS => ?_)
  obtain ⟨hP, hD⟩ := va_join (wr := ([(o2, .inl (k 6, 1, .inr (.inr (.inr (.inl g2)))))] ++ (fz_WM k q2 f2 pa2 v2))) (w1 := ([(o, .inl (k 5, 1, .inr (.inl u_1)))])) hP hD [0, 1, 2, 3, 4, 5, 6, 7, 8, 9, 10, 11, 12, 13, 14, 15, 16, 17, 18, 19, 20, 21, 22, 23, 24, 25, 26, 27, 28, 29, 30, 31, 32, 33, 34, 35, 36, 37, 38] [39, 40, 41, 42, 43, 44, 45, 46, 47] rfl rfl (by decide) (by decide) hk1 hFc hP1 (fz_Dsame (hDc.sub (ws' := [(o, .inl (k 5, 1, .inr (.inl g)))]) [38] (by decide) rfl) rfl)
  have hP : va_P D vwCl ([(o2, .inl (k 6, 1, .inr (.inr (.inr (.inl g2)))))] ++ (fz_WM k q2 f2 pa2 v2 ++ ([(o, .inl (k 5, 1, .inr (.inl u_1)))]))) H := hP
  have hD : va_D (fun q : Nat => s.heap.size ≤ q) ([(o2, .inl (k 6, 1, .inr (.inr (.inr (.inl g2)))))] ++ (fz_WM k q2 f2 pa2 v2 ++ ([(o, .inl (k 5, 1, .inr (.inl u_1)))]))) := hD
  rcases hw with ⟨rfl, hc_1⟩
  · skip
    refine lv_istore (lv' := [(6, .int 1), (5, .int 0), (4, .ref o2), (3, .ref o), (2, .ref (q2 0)), (1, .ref (q 31)), (0, .ref b)]) hx hb dL_law_1401 hl (by decide) rfl (fun ls hl => ?_)
    refine lv_aload_n hx hb dL_law_1403 rfl (lv_at hl 4 rfl) ?_
    refine lv_aload_n hx hb dL_law_1404 rfl (lv_at hl 6 rfl) ?_
    refine lv_iload hx hb dL_law_1405 (lv_at hl 1 rfl) ?_
    refine lv_iconst (v := 1) hx hb dL_law_1407 (by decide) ?_
    refine lv_iadd hx hb dL_law_1408 ?_
    refine fz_I (y := 1) (by decide) ?_
    refine va_sld hx hb hX hbl hbA hS (fz_vin (by decide)) dL_law_1409 ?_
    refine fz_I (y := x1) ex1.symm ?_
    refine lv_aload_n hx hb dL_law_1410 rfl (lv_at hl 6 rfl) ?_
    refine lv_iload hx hb dL_law_1411 (lv_at hl 1 rfl) ?_
    refine lv_iconst (v := 2) hx hb dL_law_1413 (by decide) ?_
    refine lv_iadd hx hb dL_law_1414 ?_
    refine fz_I (y := 2) (by decide) ?_
    refine va_sld hx hb hX hbl hbA hS (fz_vin (by decide)) dL_law_1415 ?_
    refine fz_I (y := x2) ex2.symm ?_
    have hPc := hP.sub (ws' := (fz_WM k q2 f2 pa2 v2)) [1, 2, 3, 4, 5, 6, 7, 8] rfl
    have hDc : va_D (va_A (fz_WM k q2 f2 pa2 v2) H.size) (fz_WM k q2 f2 pa2 v2) := (hD.sub (ws' := (fz_WM k q2 f2 pa2 v2)) [1, 2, 3, 4, 5, 6, 7, 8] (by decide) rfl).self
    have hFc := va_free (wc := (fz_WM k q2 f2 pa2 v2)) hD hS hA [1, 2, 3, 4, 5, 6, 7, 8] rfl
    refine fz_cVi (As := [.int x1, .int x2]) (rest := []) S0 (m_p_resolve l (va_A (fz_WM k q2 f2 pa2 v2) H.size) D k q2 f2 pa2 v2 x1 x2 n_f_1_6) (fz_cwV (C := RX10) 2 hts9 fm_1050 fm_1051 fm_1052 fm_1053 fm_469 rfl rfl ⟨by decide, by decide, by decide +kernel⟩ ⟨Nat.le_of_ble_eq_true rfl, Nat.le_of_ble_eq_true rfl⟩) (va_recv hK hPc (ci := 14) (q0 := 0) rfl rfl) hFc (fun a9 h9 => Or.inr h9) hG hS hPc hK hDc rfl hl.1 rfl (Nat.le_of_ble_eq_true rfl) dL_law_1416 ⟨Nat.le_of_ble_eq_true rfl, Nat.le_of_ble_eq_true rfl⟩ (fun r_2 u_2 H locs hw hz1 hk1 hP1 hS => ?_)
    obtain ⟨hP, hD⟩ := va_join (wr := ([(o2, .inl (k 6, 1, .inr (.inr (.inr (.inl g2)))))] ++ ([(o, .inl (k 5, 1, .inr (.inl u_1)))]))) (w1 := (fz_MO q2 u_2)) hP hD [1, 2, 3, 4, 5, 6, 7, 8] [0, 9] rfl rfl (by decide) (by decide) hk1 hFc hP1 (fz_Dsame (hDc.sub (ws' := fz_MO q2 v2) [0] (by decide) rfl) rfl)
    have hP : va_P D vwCl ([(o2, .inl (k 6, 1, .inr (.inr (.inr (.inl g2)))))] ++ ([(o, .inl (k 5, 1, .inr (.inl u_1)))] ++ (fz_MO q2 u_2))) H := hP
    have hD : va_D (fun q : Nat => s.heap.size ≤ q) ([(o2, .inl (k 6, 1, .inr (.inr (.inr (.inl g2)))))] ++ ([(o, .inl (k 5, 1, .inr (.inl u_1)))] ++ (fz_MO q2 u_2))) := hD
    rcases hw with ⟨rfl, ht_2, hc_2⟩
    · skip
      refine lv_istore (lv' := [(7, .int 0), (6, .int 1), (5, .int 0), (4, .ref o2), (3, .ref o), (2, .ref (q2 0)), (1, .ref (q 31)), (0, .ref b)]) hx hb dL_law_1419 hl (by decide) rfl (fun ls hl => ?_)
      refine lv_aload_n hx hb dL_law_1421 rfl (lv_at hl 5 rfl) ?_
      have hPc := hP.sub (ws' := (fz_MO q2 u_2)) [2] rfl
      have hDc : va_D (va_A (fz_MO q2 u_2) H.size) (fz_MO q2 u_2) := (hD.sub (ws' := (fz_MO q2 u_2)) [2] (by decide) rfl).self
      have hFc := va_free (wc := (fz_MO q2 u_2)) hD hS hA [2] rfl
      refine fz_cVi (As := []) (rest := []) S0 (m_thrown l (va_A (fz_MO q2 u_2) H.size) D k q2 u_2) (fz_cwV (C := RX10) 0 hts9 fm_823 fm_824 fm_825 fm_826 fm_469 rfl rfl ⟨by decide, by decide, by decide +kernel⟩ ⟨Nat.le_of_ble_eq_true rfl, Nat.le_of_ble_eq_true rfl⟩) (va_recv hK hPc (ci := 14) (q0 := 0) rfl rfl) hFc (fun a9 h9 => Or.inr h9) hG hS hPc hK hDc rfl hl.1 rfl (Nat.le_of_ble_eq_true rfl) dL_law_1422 ⟨Nat.le_of_ble_eq_true rfl, Nat.le_of_ble_eq_true rfl⟩ (fun r_3 u_3 H locs hw hz1 hk1 hP1 hS => ?_)
      obtain ⟨hP, hD⟩ := va_join (wr := ([(o2, .inl (k 6, 1, .inr (.inr (.inr (.inl g2)))))] ++ ([(o, .inl (k 5, 1, .inr (.inl u_1)))]))) (w1 := (fz_MO q2 u_2)) hP hD [2] [0, 1] rfl rfl (by decide) (by decide) hk1 hFc hP1 hDc
      have hP : va_P D vwCl ([(o2, .inl (k 6, 1, .inr (.inr (.inr (.inl g2)))))] ++ ([(o, .inl (k 5, 1, .inr (.inl u_1)))] ++ (fz_MO q2 u_2))) H := hP
      have hD : va_D (fun q : Nat => s.heap.size ≤ q) ([(o2, .inl (k 6, 1, .inr (.inr (.inr (.inl g2)))))] ++ ([(o, .inl (k 5, 1, .inr (.inl u_1)))] ++ (fz_MO q2 u_2))) := hD
      obtain rfl : r_3 = u_2 0 := hw
      refine fz_I (y := 1) ht_2 ?_
      refine lv_iload hx hb dL_law_1425 (lv_at hl 1 rfl) ?_
      refine lv_icmp_eq (tgt := 1432) hx hb dL_law_1427 (by decide) (fun c9 => ?_) (fun c9 => absurd (by decide) c9)
      refine lv_iload hx hb dL_law_1432 (lv_at hl 1 rfl) ?_
      refine lv_if_ne (tgt := 1449) hx hb dL_law_1434 (by decide) (fun c9 => ?_) (fun c9 => absurd c9 (by decide))
      refine lv_goto (tgt := 2457) hx hb dL_law_1449 (by decide) ?_
      exact lw_tail hL C0 (Nat.le_of_ble_eq_true rfl) (Nat.le_of_ble_eq_true rfl) hS ls (lv_sub hl [2, 7] rfl)

set_option maxHeartbeats 8000000 in
set_option maxRecDepth 100000 in
theorem lw_case28 {p : Program} {l : Launch} {e : Env} {s : State} {m : MethodId} {below : List Frame} {meth : Method} {c : Code} {D : va_G} {b L : Nat} {xs : Nat → Int32} (hl0 : l.stackTraces = false) (hL : L = 6) (C0 : lw_At p s m meth c b L xs) (hG : fz_GS (fun q : Nat => s.heap.size ≤ q) s) (k : Nat → ClassId) (hK : va_K D vwCl (fz_tys k) s) (q q2 : Nat → Nat) (f f2 : Nat → Nat → Int32) (pa pa2 : Nat → Option Nat) (v v2 : Nat → Int32) (o o2 : Nat) (g : Nat → Int64) (g2 : Nat → UInt64) (hF : fz_LF q2 f pa v f2 pa2 v2) (H : Heap) (locs : List Loc) (hP : va_P D vwCl (fz_WC k q f pa v ++ ([(o, .inl (k 5, 1, .inr (.inl g)))] ++ ([(o2, .inl (k 6, 1, .inr (.inr (.inr (.inl g2)))))] ++ (fz_WM k q2 f2 pa2 v2)))) H) (hD : va_D (fun q : Nat => s.heap.size ≤ q) (fz_WC k q f pa v ++ ([(o, .inl (k 5, 1, .inr (.inl g)))] ++ ([(o2, .inl (k 6, 1, .inr (.inr (.inr (.inl g2)))))] ++ (fz_WM k q2 f2 pa2 v2))))) (hS : va_S (fun q : Nat => s.heap.size ≤ q) s.heap H locs) (ls : Array Slot) (hl : lv_has ls 9 [(5, .int 0), (4, .ref o2), (3, .ref o), (2, .ref (q2 0)), (1, .ref (q 31)), (0, .ref b)]) :
    W p l e room_1 s m #[Value.ref b] below meth c H locs 2000 400000 (lw_Z below #[Value.ref b] s) (F0 m 2062 ls []) := by
  obtain ⟨g_v_0, g_v_1, g_v_2, g_v_3, g_v_4, g_v_5, g_v_6, g_v_7, g_v_8, g_v_9, g_v_10, g_v_11, g_v_12, g_v_13, g_v_14, g_v_15, g_v_17, g_f_2_0, g_f_4_0, g_f_5_0, g_f_6_0, g_f_7_0, g_f_8_0, g_f_9_0, g_f_11_0, g_f_18_0, g_f_19_0, g_pa_0, g_pa_1, g_pa_8, n_v_0, n_v_5, n_v_6, n_v_7, n_v_8, n_v_9, n_v_10, n_v_11, n_v_12, n_v_13, n_v_15, n_v_16, n_v_17, n_v_18, n_v_19, n_v_21, n_f_1_0, n_f_1_1, n_f_1_2, n_f_1_3, n_f_1_4, n_f_1_5, n_f_1_6, n_f_1_7, n_f_1_8, n_f_1_9, n_f_1_10, n_f_1_11, n_f_1_12, n_f_1_13, n_f_1_15, n_f_1_16, n_f_1_17, n_pb_0⟩ := hF
  obtain ⟨hx, hb, hr, hml, hown, hts, hX, hbl, hlocks, hgv⟩ := id C0
  subst hL
  have hL : (6 : Nat) = 6 := rfl
  have hA : ∀ q : Nat, s.heap.size ≤ q → (fun q : Nat => s.heap.size ≤ q) q := fun _ h => h
  have hbA : ¬ (fun q : Nat => s.heap.size ≤ q) b := Nat.not_le.mpr hbl
  have hts9 := fz_hts9 hts
  have hown : s.vm.findClass RL = some m.cls := hown
  have S0 : CallFix p m c code 9 s #[Value.ref b] (Cond.initialized RL :: fz_WA) RL := ⟨hx, hb, hml, hown, hts9⟩
  obtain ⟨x1, ex1⟩ : ∃ z, z = xs 1 := ⟨_, rfl⟩
  obtain ⟨x2, ex2⟩ : ∃ z, z = xs 2 := ⟨_, rfl⟩
  obtain ⟨x3, ex3⟩ : ∃ z, z = xs 3 := ⟨_, rfl⟩
  obtain ⟨x4, ex4⟩ : ∃ z, z = xs 4 := ⟨_, rfl⟩
  obtain ⟨x5, ex5⟩ : ∃ z, z = xs 5 := ⟨_, rfl⟩
  refine lv_aload_n hx hb dL_law_2062 rfl (lv_at hl 4 rfl) ?_
  refine lv_aload_n hx hb dL_law_2063 rfl (lv_at hl 5 rfl) ?_
  refine lv_iload hx hb dL_law_2064 (lv_at hl 0 rfl) ?_
  refine lv_iconst (v := 1) hx hb dL_law_2066 (by decide) ?_
  refine lv_iadd hx hb dL_law_2067 ?_
  refine fz_I (y := 1) (by decide) ?_
  refine va_sld hx hb hX hbl hbA hS (fz_vin (by decide)) dL_law_2068 ?_
  refine fz_I (y := x1) ex1.symm ?_
  refine lv_aload_n hx hb dL_law_2069 rfl (lv_at hl 5 rfl) ?_
  refine lv_iload hx hb dL_law_2070 (lv_at hl 0 rfl) ?_
  refine lv_iconst (v := 2) hx hb dL_law_2072 (by decide) ?_
  refine lv_iadd hx hb dL_law_2073 ?_
  refine fz_I (y := 2) (by decide) ?_
  refine va_sld hx hb hX hbl hbA hS (fz_vin (by decide)) dL_law_2074 ?_
  refine fz_I (y := x2) ex2.symm ?_
  refine lv_aload_n hx hb dL_law_2075 rfl (lv_at hl 2 rfl) ?_
  have hPc := hP.sub (ws' := (fz_WC k q f pa v ++ ([(o, .inl (k 5, 1, .inr (.inl g)))]))) [0, 1, 2, 3, 4, 5, 6, 7, 8, 9, 10, 11, 12, 13, 14, 15, 16, 17, 18, 19, 20, 21, 22, 23, 24, 25, 26, 27, 28, 29, 30, 31, 32, 33, 34, 35, 36, 37, 38] rfl
  have hDc : va_D (va_A (fz_WC k q f pa v ++ ([(o, .inl (k 5, 1, .inr (.inl g)))])) H.size) (fz_WC k q f pa v ++ ([(o, .inl (k 5, 1, .inr (.inl g)))])) := (hD.sub (ws' := (fz_WC k q f pa v ++ ([(o, .inl (k 5, 1, .inr (.inl g)))]))) [0, 1, 2, 3, 4, 5, 6, 7, 8, 9, 10, 11, 12, 13, 14, 15, 16, 17, 18, 19, 20, 21, 22, 23, 24, 25, 26, 27, 28, 29, 30, 31, 32, 33, 34, 35, 36, 37, 38] (by decide) rfl).self
  have hFc := va_free (wc := (fz_WC k q f pa v ++ ([(o, .inl (k 5, 1, .inr (.inl g)))]))) hD hS hA [0, 1, 2, 3, 4, 5, 6, 7, 8, 9, 10, 11, 12, 13, 14, 15, 16, 17, 18, 19, 20, 21, 22, 23, 24, 25, 26, 27, 28, 29, 30, 31, 32, 33, 34, 35, 36, 37, 38] rfl
  refine fz_hSi (As := [.ref (q 31), .int x1, .int x2, .ref o]) (rest := []) S0 (h_report l hl0 (va_A (fz_WC k q f pa v ++ ([(o, .inl (k 5, 1, .inr (.inl g)))])) H.size) D k q f pa v o g x1 x2 g_v_11) (vx_cwSW 4 hts9 (fz_gSW fm_1043 fm_1054 fm_1055 fm_816) rfl rfl rfl ⟨by decide, by decide, by decide +kernel⟩ ⟨Nat.le_of_ble_eq_true rfl, Nat.le_of_ble_eq_true rfl⟩) hFc (fun a9 h9 => Or.inr h9) hG hS hPc hK hDc rfl hl.1 rfl (Nat.le_of_ble_eq_true rfl) dL_law_2076 ⟨Nat.le_of_ble_eq_true rfl, Nat.le_of_ble_eq_true rfl⟩ (fun r_1 u_1 H locs hw hz1 hk1 hP1 hS => ?_)
  obtain ⟨hP, hD⟩ := va_join (wr := ([(o2, .inl (k 6, 1, .inr (.inr (.inr (.inl g2)))))] ++ (fz_WM k q2 f2 pa2 v2))) (w1 := ([(o, .inl (k 5, 1, .inr (.inl u_1)))])) hP hD [0, 1, 2, 3, 4, 5, 6, 7, 8, 9, 10, 11, 12, 13, 14, 15, 16, 17, 18, 19, 20, 21, 22, 23, 24, 25, 26, 27, 28, 29, 30, 31, 32, 33, 34, 35, 36, 37, 38] [39, 40, 41, 42, 43, 44, 45, 46, 47] rfl rfl (by decide) (by decide) hk1 hFc hP1 (fz_Dsame (hDc.sub (ws' := [(o, .inl (k 5, 1, .inr (.inl g)))]) [38] (by decide) rfl) rfl)
  have hP : va_P D vwCl ([(o2, .inl (k 6, 1, .inr (.inr (.inr (.inl g2)))))] ++ (fz_WM k q2 f2 pa2 v2 ++ ([(o, .inl (k 5, 1, .inr (.inl u_1)))]))) H := hP
  have hD : va_D (fun q : Nat => s.heap.size ≤ q) ([(o2, .inl (k 6, 1, .inr (.inr (.inr (.inl g2)))))] ++ (fz_WM k q2 f2 pa2 v2 ++ ([(o, .inl (k 5, 1, .inr (.inl u_1)))]))) := hD
  rcases hw with ⟨rfl, hc_1⟩
  · skip
    refine lv_istore (lv' := [(6, .int 1), (5, .int 0), (4, .ref o2), (3, .ref o), (2, .ref (q2 0)), (1, .ref (q 31)), (0, .ref b)]) hx hb dL_law_2079 hl (by decide) rfl (fun ls hl => ?_)
    refine lv_aload_n hx hb dL_law_2081 rfl (lv_at hl 4 rfl) ?_
    refine lv_aload_n hx hb dL_law_2082 rfl (lv_at hl 6 rfl) ?_
    refine lv_iload hx hb dL_law_2083 (lv_at hl 1 rfl) ?_
    refine lv_iconst (v := 1) hx hb dL_law_2085 (by decide) ?_
    refine lv_iadd hx hb dL_law_2086 ?_
    refine fz_I (y := 1) (by decide) ?_
    refine va_sld hx hb hX hbl hbA hS (fz_vin (by decide)) dL_law_2087 ?_
    refine fz_I (y := x1) ex1.symm ?_
    refine lv_aload_n hx hb dL_law_2088 rfl (lv_at hl 6 rfl) ?_
    refine lv_iload hx hb dL_law_2089 (lv_at hl 1 rfl) ?_
    refine lv_iconst (v := 2) hx hb dL_law_2091 (by decide) ?_
    refine lv_iadd hx hb dL_law_2092 ?_
    refine fz_I (y := 2) (by decide) ?_
    refine va_sld hx hb hX hbl hbA hS (fz_vin (by decide)) dL_law_2093 ?_
    refine fz_I (y := x2) ex2.symm ?_
    have hPc := hP.sub (ws' := (fz_WM k q2 f2 pa2 v2)) [1, 2, 3, 4, 5, 6, 7, 8] rfl
    have hDc : va_D (va_A (fz_WM k q2 f2 pa2 v2) H.size) (fz_WM k q2 f2 pa2 v2) := (hD.sub (ws' := (fz_WM k q2 f2 pa2 v2)) [1, 2, 3, 4, 5, 6, 7, 8] (by decide) rfl).self
    have hFc := va_free (wc := (fz_WM k q2 f2 pa2 v2)) hD hS hA [1, 2, 3, 4, 5, 6, 7, 8] rfl
    refine fz_cVi (As := [.int x1, .int x2]) (rest := []) S0 (m_p_report l (va_A (fz_WM k q2 f2 pa2 v2) H.size) D k q2 f2 pa2 v2 x1 x2 n_v_9) (fz_cwV (C := RX10) 2 hts9 fm_1056 fm_1057 fm_1058 fm_1059 fm_469 rfl rfl ⟨by decide, by decide, by decide +kernel⟩ ⟨Nat.le_of_ble_eq_true rfl, Nat.le_of_ble_eq_true rfl⟩) (va_recv hK hPc (ci := 14) (q0 := 0) rfl rfl) hFc (fun a9 h9 => Or.inr h9) hG hS hPc hK hDc rfl hl.1 rfl (Nat.le_of_ble_eq_true rfl) dL_law_2094 ⟨Nat.le_of_ble_eq_true rfl, Nat.le_of_ble_eq_true rfl⟩ (fun r_2 u_2 H locs hw hz1 hk1 hP1 hS => ?_)
    obtain ⟨hP, hD⟩ := va_join (wr := ([(o2, .inl (k 6, 1, .inr (.inr (.inr (.inl g2)))))] ++ ([(o, .inl (k 5, 1, .inr (.inl u_1)))]))) (w1 := (fz_MO q2 u_2)) hP hD [1, 2, 3, 4, 5, 6, 7, 8] [0, 9] rfl rfl (by decide) (by decide) hk1 hFc hP1 (fz_Dsame (hDc.sub (ws' := fz_MO q2 v2) [0] (by decide) rfl) rfl)
    have hP : va_P D vwCl ([(o2, .inl (k 6, 1, .inr (.inr (.inr (.inl g2)))))] ++ ([(o, .inl (k 5, 1, .inr (.inl u_1)))] ++ (fz_MO q2 u_2))) H := hP
    have hD : va_D (fun q : Nat => s.heap.size ≤ q) ([(o2, .inl (k 6, 1, .inr (.inr (.inr (.inl g2)))))] ++ ([(o, .inl (k 5, 1, .inr (.inl u_1)))] ++ (fz_MO q2 u_2))) := hD
    rcases hw with ⟨rfl, ht_2, hc_2⟩
    · skip
      refine lv_istore (lv' := [(7, .int 0), (6, .int 1), (5, .int 0), (4, .ref o2), (3, .ref o), (2, .ref (q2 0)), (1, .ref (q 31)), (0, .ref b)]) hx hb dL_law_2097 hl (by decide) rfl (fun ls hl => ?_)
      refine lv_aload_n hx hb dL_law_2099 rfl (lv_at hl 5 rfl) ?_
      have hPc := hP.sub (ws' := (fz_MO q2 u_2)) [2] rfl
      have hDc : va_D (va_A (fz_MO q2 u_2) H.size) (fz_MO q2 u_2) := (hD.sub (ws' := (fz_MO q2 u_2)) [2] (by decide) rfl).self
      have hFc := va_free (wc := (fz_MO q2 u_2)) hD hS hA [2] rfl
      refine fz_cVi (As := []) (rest := []) S0 (m_thrown l (va_A (fz_MO q2 u_2) H.size) D k q2 u_2) (fz_cwV (C := RX10) 0 hts9 fm_823 fm_824 fm_825 fm_826 fm_469 rfl rfl ⟨by decide, by decide, by decide +kernel⟩ ⟨Nat.le_of_ble_eq_true rfl, Nat.le_of_ble_eq_true rfl⟩) (va_recv hK hPc (ci := 14) (q0 := 0) rfl rfl) hFc (fun a9 h9 => Or.inr h9) hG hS hPc hK hDc rfl hl.1 rfl (Nat.le_of_ble_eq_true rfl) dL_law_2100 ⟨Nat.le_of_ble_eq_true rfl, Nat.le_of_ble_eq_true rfl⟩ (fun r_3 u_3 H locs hw hz1 hk1 hP1 hS => ?_)
      obtain ⟨hP, hD⟩ := va_join (wr := ([(o2, .inl (k 6, 1, .inr (.inr (.inr (.inl g2)))))] ++ ([(o, .inl (k 5, 1, .inr (.inl u_1)))]))) (w1 := (fz_MO q2 u_2)) hP hD [2] [0, 1] rfl rfl (by decide) (by decide) hk1 hFc hP1 hDc
      have hP : va_P D vwCl ([(o2, .inl (k 6, 1, .inr (.inr (.inr (.inl g2)))))] ++ ([(o, .inl (k 5, 1, .inr (.inl u_1)))] ++ (fz_MO q2 u_2))) H := hP
      have hD : va_D (fun q : Nat => s.heap.size ≤ q) ([(o2, .inl (k 6, 1, .inr (.inr (.inr (.inl g2)))))] ++ ([(o, .inl (k 5, 1, .inr (.inl u_1)))] ++ (fz_MO q2 u_2))) := hD
      obtain rfl : r_3 = u_2 0 := hw
      refine fz_I (y := 1) ht_2 ?_
      refine lv_iload hx hb dL_law_2103 (lv_at hl 1 rfl) ?_
      refine lv_icmp_eq (tgt := 2110) hx hb dL_law_2105 (by decide) (fun c9 => ?_) (fun c9 => absurd (by decide) c9)
      refine lv_iload hx hb dL_law_2110 (lv_at hl 1 rfl) ?_
      refine lv_if_ne (tgt := 2127) hx hb dL_law_2112 (by decide) (fun c9 => ?_) (fun c9 => absurd c9 (by decide))
      refine lv_goto (tgt := 2457) hx hb dL_law_2127 (by decide) ?_
      exact lw_tail hL C0 (Nat.le_of_ble_eq_true rfl) (Nat.le_of_ble_eq_true rfl) hS ls (lv_sub hl [2, 7] rfl)

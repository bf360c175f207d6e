set_option maxHeartbeats 8000000 in
set_option maxRecDepth 100000 in
theorem lw_case29 {p : Program} {l : Launch} {e : Env} {s : State} {m : MethodId} {below : List Frame} {meth : Method} {c : Code} {D : va_G} {b L : Nat} {xs : Nat → Int32} (hl0 : l.stackTraces = false) (hL : L = 6) (C0 : lw_At p s m meth c b L xs) (hG : fz_GS (fun q : Nat => s.heap.size ≤ q) s) (k : Nat → ClassId) (hK : va_K D vwCl (fz_tys k) s) (q q2 : Nat → Nat) (f f2 : Nat → Nat → Int32) (pa pa2 : Nat → Option Nat) (v v2 : Nat → Int32) (o o2 : Nat) (g : Nat → Int64) (g2 : Nat → UInt64) (hF : fz_LF q2 f pa v f2 pa2 v2) (H : Heap) (locs : List Loc) (hP : va_P D vwCl (fz_WC k q f pa v ++ ([(o, .inl (k 5, 1, .inr (.inl g)))] ++ ([(o2, .inl (k 6, 1, .inr (.inr (.inr (.inl g2)))))] ++ (fz_WM k q2 f2 pa2 v2)))) H) (hD : va_D (fun q : Nat => s.heap.size ≤ q) (fz_WC k q f pa v ++ ([(o, .inl (k 5, 1, .inr (.inl g)))] ++ ([(o2, .inl (k 6, 1, .inr (.inr (.inr (.inl g2)))))] ++ (fz_WM k q2 f2 pa2 v2))))) (hS : va_S (fun q : Nat => s.heap.size ≤ q) s.heap H locs) (ls : Array Slot) (hl : lv_has ls 9 [(5, .int 0), (4, .ref o2), (3, .ref o), (2, .ref (q2 0)), (1, .ref (q 31)), (0, .ref b)]) :
    W p l e room_1 s m #[Value.ref b] below meth c H locs 2000 400000 (lw_Z below #[Value.ref b] s) (F0 m 2130 ls []) := by
  obtain ⟨g_v_0, g_v_1, g_v_2, g_v_3, g_v_4, g_v_5, g_v_6, g_v_7, g_v_8, g_v_9, g_v_10, g_v_11, g_v_12, g_v_13, g_v_14, g_v_15, g_v_17, g_f_2_0, g_f_4_0, g_f_5_0, g_f_6_0, g_f_7_0, g_f_8_0, g_f_9_0, g_f_11_0, g_f_18_0, g_f_19_0, g_pa_0, g_pa_1, g_pa_8, n_v_0, n_v_5, n_v_6, n_v_7, n_v_8, n_v_9, n_v_10, n_v_11, n_v_12, n_v_13, n_v_15, n_v_16, n_v_17, n_v_18, n_v_19, n_v_21, n_f_1_0, n_f_1_1, n_f_1_2, n_f_1_3, n_f_1_4, n_f_1_5, n_f_1_6, n_f_1_7, n_f_1_8, n_f_1_9, n_f_1_10, n_f_1_11, n_f_1_12, n_f_1_13, n_f_1_15, n_f_1_16, n_f_1_17, n_pb_0⟩ := hF
  obtain ⟨hx, hb, hr, hml, hown, hts, hX, hbl, hlocks, hgv⟩ := id C0
  subst hL
  have hL : (6 : Nat) = 6 := rfl
  have hA : ∀ q : Nat, s.heap.size ≤ q → (fun q : Nat => s.heap.size ≤ q) q := fun _ h => h
  have hbA : ¬ (fun q : Nat => s.heap.size ≤ q) b := Nat.not_le.mpr hbl
  have hts9 := fz_hts9 hts
  have hown : s.vm.findClass RL = some m.cls := hown
  have S0 : CallFix p m c code 9 s #[Value.ref b] (Cond.initialized RL :: fz_WA) RL := ⟨hx, hb, hml, hown, hts9⟩
  obtain ⟨x1, ex1⟩ : ∃ z, z = xs 1 := ⟨_, rfl⟩
  obtain ⟨x2, ex2⟩ : ∃ z, z = xs 2 := ⟨_, rfl⟩
  obtain ⟨x3, ex3⟩ : ∃ z, z = xs 3 := ⟨_, rfl⟩
  obtain ⟨x4, ex4⟩ : ∃ z, z = xs 4 := ⟨_, rfl⟩
  obtain ⟨x5, ex5⟩ : ∃ z, z = xs 5 := ⟨_, rfl⟩
  refine lv_aload_n hx hb dL_law_2130 rfl (lv_at hl 4 rfl) ?_
  refine lv_aload_n hx hb dL_law_2131 rfl (lv_at hl 5 rfl) ?_
  refine lv_iload hx hb dL_law_2132 (lv_at hl 0 rfl) ?_
  refine lv_iconst (v := 1) hx hb dL_law_2134 (by decide) ?_
  refine lv_iadd hx hb dL_law_2135 ?_
  refine fz_I (y := 1) (by decide) ?_
  refine va_sld hx hb hX hbl hbA hS (fz_vin (by decide)) dL_law_2136 ?_
  refine fz_I (y := x1) ex1.symm ?_
  refine lv_i2c (v := (x1.toUInt32 % 65536).toInt32) hx hb dL_law_2137 rfl ?_
  refine lv_aload_n hx hb dL_law_2138 rfl (lv_at hl 2 rfl) ?_
  have hPc := hP.sub (ws' := (fz_WC k q f pa v ++ ([(o, .inl (k 5, 1, .inr (.inl g)))]))) [0, 1, 2, 3, 4, 5, 6, 7, 8, 9, 10, 11, 12, 13, 14, 15, 16, 17, 18, 19, 20, 21, 22, 23, 24, 25, 26, 27, 28, 29, 30, 31, 32, 33, 34, 35, 36, 37, 38] rfl
  have hDc : va_D (va_A (fz_WC k q f pa v ++ ([(o, .inl (k 5, 1, .inr (.inl g)))])) H.size) (fz_WC k q f pa v ++ ([(o, .inl (k 5, 1, .inr (.inl g)))])) := (hD.sub (ws' := (fz_WC k q f pa v ++ ([(o, .inl (k 5, 1, .inr (.inl g)))]))) [0, 1, 2, 3, 4, 5, 6, 7, 8, 9, 10, 11, 12, 13, 14, 15, 16, 17, 18, 19, 20, 21, 22, 23, 24, 25, 26, 27, 28, 29, 30, 31, 32, 33, 34, 35, 36, 37, 38] (by decide) rfl).self
  have hFc := va_free (wc := (fz_WC k q f pa v ++ ([(o, .inl (k 5, 1, .inr (.inl g)))]))) hD hS hA [0, 1, 2, 3, 4, 5, 6, 7, 8, 9, 10, 11, 12, 13, 14, 15, 16, 17, 18, 19, 20, 21, 22, 23, 24, 25, 26, 27, 28, 29, 30, 31, 32, 33, 34, 35, 36, 37, 38] rfl
  refine fz_hSi (As := [.ref (q 31), .int ((x1.toUInt32 % 65536).toInt32), .ref o]) (rest := []) S0 (h_feed l hl0 (va_A (fz_WC k q f pa v ++ ([(o, .inl (k 5, 1, .inr (.inl g)))])) H.size) D k q f pa v o g ((x1.toUInt32 % 65536).toInt32) g_v_12) (vx_cwSW 3 hts9 (fz_gSW fm_786 fm_985 fm_986 fm_816) rfl rfl rfl ⟨by decide, by decide, by decide +kernel⟩ ⟨Nat.le_of_ble_eq_true rfl, Nat.le_of_ble_eq_true rfl⟩) hFc (fun a9 h9 => Or.inr h9) hG hS hPc hK hDc rfl hl.1 rfl (Nat.le_of_ble_eq_true rfl) dL_law_2139 ⟨Nat.le_of_ble_eq_true rfl, Nat.le_of_ble_eq_true rfl⟩ (fun r_1 u_1 H locs hw hz1 hk1 hP1 hS => ?_)
  obtain ⟨hP, hD⟩ := va_join (wr := ([(o2, .inl (k 6, 1, .inr (.inr (.inr (.inl g2)))))] ++ (fz_WM k q2 f2 pa2 v2))) (w1 := ([(o, .inl (k 5, 1, .inr (.inl u_1)))])) hP hD [0, 1, 2, 3, 4, 5, 6, 7, 8, 9, 10, 11, 12, 13, 14, 15, 16, 17, 18, 19, 20, 21, 22, 23, 24, 25, 26, 27, 28, 29, 30, 31, 32, 33, 34, 35, 36, 37, 38] [39, 40, 41, 42, 43, 44, 45, 46, 47] rfl rfl (by decide) (by decide) hk1 hFc hP1 (fz_Dsame (hDc.sub (ws' := [(o, .inl (k 5, 1, .inr (.inl g)))]) [38] (by decide) rfl) rfl)
  have hP : va_P D vwCl ([(o2, .inl (k 6, 1, .inr (.inr (.inr (.inl g2)))))] ++ (fz_WM k q2 f2 pa2 v2 ++ ([(o, .inl (k 5, 1, .inr (.inl u_1)))]))) H := hP
  have hD : va_D (fun q : Nat => s.heap.size ≤ q) ([(o2, .inl (k 6, 1, .inr (.inr (.inr (.inl g2)))))] ++ (fz_WM k q2 f2 pa2 v2 ++ ([(o, .inl (k 5, 1, .inr (.inl u_1)))]))) := hD
  rcases hw with ⟨rfl, hu_1, hc_1⟩ | ⟨rfl, hc_1⟩
  · skip
    refine lv_istore (lv' := [(6, .int 0), (5, .int 0), (4, .ref o2), (3, .ref o), (2, .ref (q2 0)), (1, .ref (q 31)), (0, .ref b)]) hx hb dL_law_2142 hl (by decide) rfl (fun ls hl => ?_)
    refine lv_aload_n hx hb dL_law_2144 rfl (lv_at hl 4 rfl) ?_
    refine lv_aload_n hx hb dL_law_2145 rfl (lv_at hl 6 rfl) ?_
    refine lv_iload hx hb dL_law_2146 (lv_at hl 1 rfl) ?_
    refine lv_iconst (v := 1) hx hb dL_law_2148 (by decide) ?_
    refine lv_iadd hx hb dL_law_2149 ?_
    refine fz_I (y := 1) (by decide) ?_
    refine va_sld hx hb hX hbl hbA hS (fz_vin (by decide)) dL_law_2150 ?_
    refine fz_I (y := x1) ex1.symm ?_
    refine lv_i2c (v := (x1.toUInt32 % 65536).toInt32) hx hb dL_law_2151 rfl ?_
    have hPc := hP.sub (ws' := (fz_WM k q2 f2 pa2 v2)) [1, 2, 3, 4, 5, 6, 7, 8] rfl
    have hDc : va_D (va_A (fz_WM k q2 f2 pa2 v2) H.size) (fz_WM k q2 f2 pa2 v2) := (hD.sub (ws' := (fz_WM k q2 f2 pa2 v2)) [1, 2, 3, 4, 5, 6, 7, 8] (by decide) rfl).self
    have hFc := va_free (wc := (fz_WM k q2 f2 pa2 v2)) hD hS hA [1, 2, 3, 4, 5, 6, 7, 8] rfl
    refine fz_cVi (As := [.int ((x1.toUInt32 % 65536).toInt32)]) (rest := []) S0 (m_p_feed l (va_A (fz_WM k q2 f2 pa2 v2) H.size) D k q2 f2 pa2 v2 ((x1.toUInt32 % 65536).toInt32) n_v_15) (fz_cwV (C := RX10) 1 hts9 fm_987 fm_988 fm_989 fm_990 fm_469 rfl rfl ⟨by decide, by decide, by decide +kernel⟩ ⟨Nat.le_of_ble_eq_true rfl, Nat.le_of_ble_eq_true rfl⟩) (va_recv hK hPc (ci := 14) (q0 := 0) rfl rfl) hFc (fun a9 h9 => Or.inr h9) hG hS hPc hK hDc rfl hl.1 rfl (Nat.le_of_ble_eq_true rfl) dL_law_2152 ⟨Nat.le_of_ble_eq_true rfl, Nat.le_of_ble_eq_true rfl⟩ (fun r_2 u_2 H locs hw hz1 hk1 hP1 hS => ?_)
    obtain ⟨hP, hD⟩ := va_join (wr := ([(o2, .inl (k 6, 1, .inr (.inr (.inr (.inl g2)))))] ++ ([(o, .inl (k 5, 1, .inr (.inl u_1)))]))) (w1 := (fz_MO q2 u_2)) hP hD [1, 2, 3, 4, 5, 6, 7, 8] [0, 9] rfl rfl (by decide) (by decide) hk1 hFc hP1 (fz_Dsame (hDc.sub (ws' := fz_MO q2 v2) [0] (by decide) rfl) rfl)
    have hP : va_P D vwCl ([(o2, .inl (k 6, 1, .inr (.inr (.inr (.inl g2)))))] ++ ([(o, .inl (k 5, 1, .inr (.inl u_1)))] ++ (fz_MO q2 u_2))) H := hP
    have hD : va_D (fun q : Nat => s.heap.size ≤ q) ([(o2, .inl (k 6, 1, .inr (.inr (.inr (.inl g2)))))] ++ ([(o, .inl (k 5, 1, .inr (.inl u_1)))] ++ (fz_MO q2 u_2))) := hD
    rcases hw with ⟨rfl, ht_2, hc_2⟩
    · skip
      refine lv_istore (lv' := [(7, .int 1), (6, .int 0), (5, .int 0), (4, .ref o2), (3, .ref o), (2, .ref (q2 0)), (1, .ref (q 31)), (0, .ref b)]) hx hb dL_law_2155 hl (by decide) rfl (fun ls hl => ?_)
      refine lv_aload_n hx hb dL_law_2157 rfl (lv_at hl 5 rfl) ?_
      have hPc := hP.sub (ws' := (fz_MO q2 u_2)) [2] rfl
      have hDc : va_D (va_A (fz_MO q2 u_2) H.size) (fz_MO q2 u_2) := (hD.sub (ws' := (fz_MO q2 u_2)) [2] (by decide) rfl).self
      have hFc := va_free (wc := (fz_MO q2 u_2)) hD hS hA [2] rfl
      refine fz_cVi (As := []) (rest := []) S0 (m_thrown l (va_A (fz_MO q2 u_2) H.size) D k q2 u_2) (fz_cwV (C := RX10) 0 hts9 fm_823 fm_824 fm_825 fm_826 fm_469 rfl rfl ⟨by decide, by decide, by decide +kernel⟩ ⟨Nat.le_of_ble_eq_true rfl, Nat.le_of_ble_eq_true rfl⟩) (va_recv hK hPc (ci := 14) (q0 := 0) rfl rfl) hFc (fun a9 h9 => Or.inr h9) hG hS hPc hK hDc rfl hl.1 rfl (Nat.le_of_ble_eq_true rfl) dL_law_2158 ⟨Nat.le_of_ble_eq_true rfl, Nat.le_of_ble_eq_true rfl⟩ (fun r_3 u_3 H locs hw hz1 hk1 hP1 hS => ?_)
      obtain ⟨hP, hD⟩ := va_join (wr := ([(o2, .inl (k 6, 1, .inr (.inr (.inr (.inl g2)))))] ++ ([(o, .inl (k 5, 1, .inr (.inl u_1)))]))) (w1 := (fz_MO q2 u_2)) hP hD [2] [0, 1] rfl rfl (by decide) (by decide) hk1 hFc hP1 hDc
      have hP : va_P D vwCl ([(o2, .inl (k 6, 1, .inr (.inr (.inr (.inl g2)))))] ++ ([(o, .inl (k 5, 1, .inr (.inl u_1)))] ++ (fz_MO q2 u_2))) H := hP
      have hD : va_D (fun q : Nat => s.heap.size ≤ q) ([(o2, .inl (k 6, 1, .inr (.inr (.inr (.inl g2)))))] ++ ([(o, .inl (k 5, 1, .inr (.inl u_1)))] ++ (fz_MO q2 u_2))) := hD
      obtain rfl : r_3 = u_2 0 := hw
      refine fz_I (y := 0) ht_2 ?_
      refine lv_iload hx hb dL_law_2161 (lv_at hl 1 rfl) ?_
      refine lv_icmp_eq (tgt := 2168) hx hb dL_law_2163 (by decide) (fun c9 => ?_) (fun c9 => absurd (by decide) c9)
      refine lv_iload hx hb dL_law_2168 (lv_at hl 1 rfl) ?_
      refine lv_if_ne (tgt := 2185) hx hb dL_law_2170 (by decide) (fun c9 => absurd (by decide) c9) (fun c9 => ?_)
      refine lv_aload_n hx hb dL_law_2173 rfl (lv_at hl 4 rfl) ?_
      refine lv_iconst (v := 0) hx hb dL_law_2174 (by decide) ?_
      refine va_lald hx hb hK hP 1 5 rfl rfl (fz_vin (by decide)) dL_law_2175 ?_
      refine fz_V (y := .long ((1 : Int32).toInt64)) (congrArg Value.long hu_1) ?_
      refine lv_iload hx hb dL_law_2176 (lv_at hl 0 rfl) ?_
      refine lv_i2l (v := (1 : Int32).toInt64) hx hb dL_law_2178 rfl ?_
      refine W.lcmp hx hb dL_law_2179 ?_
      refine fz_I (y := 0) (by decide) ?_
      refine lv_if_eq (tgt := 2185) hx hb dL_law_2180 (by decide) (fun c9 => ?_) (fun c9 => absurd (by decide) c9)
      refine lv_goto (tgt := 2457) hx hb dL_law_2185 (by decide) ?_
      exact lw_tail hL C0 (Nat.le_of_ble_eq_true rfl) (Nat.le_of_ble_eq_true rfl) hS ls (lv_sub hl [2, 7] rfl)
  · skip
    exact hc_1.elim

set_option maxHeartbeats 8000000 in
set_option maxRecDepth 100000 in
theorem lw_case30 {p : Program} {l : Launch} {e : Env} {s : State} {m : MethodId} {below : List Frame} {meth : Method} {c : Code} {D : va_G} {b L : Nat} {xs : Nat → Int32} (hl0 : l.stackTraces = false) (hL : L = 6) (C0 : lw_At p s m meth c b L xs) (hG : fz_GS (fun q : Nat => s.heap.size ≤ q) s) (k : Nat → ClassId) (hK : va_K D vwCl (fz_tys k) s) (q q2 : Nat → Nat) (f f2 : Nat → Nat → Int32) (pa pa2 : Nat → Option Nat) (v v2 : Nat → Int32) (o o2 : Nat) (g : Nat → Int64) (g2 : Nat → UInt64) (hF : fz_LF q2 f pa v f2 pa2 v2) (H : Heap) (locs : List Loc) (hP : va_P D vwCl (fz_WC k q f pa v ++ ([(o, .inl (k 5, 1, .inr (.inl g)))] ++ ([(o2, .inl (k 6, 1, .inr (.inr (.inr (.inl g2)))))] ++ (fz_WM k q2 f2 pa2 v2)))) H) (hD : va_D (fun q : Nat => s.heap.size ≤ q) (fz_WC k q f pa v ++ ([(o, .inl (k 5, 1, .inr (.inl g)))] ++ ([(o2, .inl (k 6, 1, .inr (.inr (.inr (.inl g2)))))] ++ (fz_WM k q2 f2 pa2 v2))))) (hS : va_S (fun q : Nat => s.heap.size ≤ q) s.heap H locs) (ls : Array Slot) (hl : lv_has ls 9 [(5, .int 0), (4, .ref o2), (3, .ref o), (2, .ref (q2 0)), (1, .ref (q 31)), (0, .ref b)]) :
    W p l e room_1 s m #[Value.ref b] below meth c H locs 2000 400000 (lw_Z below #[Value.ref b] s) (F0 m 2188 ls []) := by
  obtain ⟨g_v_0, g_v_1, g_v_2, g_v_3, g_v_4, g_v_5, g_v_6, g_v_7, g_v_8, g_v_9, g_v_10, g_v_11, g_v_12, g_v_13, g_v_14, g_v_15, g_v_17, g_f_2_0, g_f_4_0, g_f_5_0, g_f_6_0, g_f_7_0, g_f_8_0, g_f_9_0, g_f_11_0, g_f_18_0, g_f_19_0, g_pa_0, g_pa_1, g_pa_8, n_v_0, n_v_5, n_v_6, n_v_7, n_v_8, n_v_9, n_v_10, n_v_11, n_v_12, n_v_13, n_v_15, n_v_16, n_v_17, n_v_18, n_v_19, n_v_21, n_f_1_0, n_f_1_1, n_f_1_2, n_f_1_3, n_f_1_4, n_f_1_5, n_f_1_6, n_f_1_7, n_f_1_8, n_f_1_9, n_f_1_10, n_f_1_11, n_f_1_12, n_f_1_13, n_f_1_15, n_f_1_16, n_f_1_17, n_pb_0⟩ := hF
  obtain ⟨hx, hb, hr, hml, hown, hts, hX, hbl, hlocks, hgv⟩ := id C0
  subst hL
  have hL : (6 : Nat) = 6 := rfl
  have hA : ∀ q : Nat, s.heap.size ≤ q → (fun q : Nat => s.heap.size ≤ q) q := fun _ h => h
  have hbA : ¬ (fun q : Nat => s.heap.size ≤ q) b := Nat.not_le.mpr hbl
  have hts9 := fz_hts9 hts
  have hown : s.vm.findClass RL = some m.cls := hown
  have S0 : CallFix p m c code 9 s #[Value.ref b] (Cond.initialized RL :: fz_WA) RL := ⟨hx, hb, hml, hown, hts9⟩
  obtain ⟨x1, ex1⟩ : ∃ z, z = xs 1 := ⟨_, rfl⟩
  obtain ⟨x2, ex2⟩ : ∃ z, z = xs 2 := ⟨_, rfl⟩
  obtain ⟨x3, ex3⟩ : ∃ z, z = xs 3 := ⟨_, rfl⟩
  obtain ⟨x4, ex4⟩ : ∃ z, z = xs 4 := ⟨_, rfl⟩
  obtain ⟨x5, ex5⟩ : ∃ z, z = xs 5 := ⟨_, rfl⟩
  refine lv_aload_n hx hb dL_law_2188 rfl (lv_at hl 4 rfl) ?_
  refine lv_aload_n hx hb dL_law_2189 rfl (lv_at hl 5 rfl) ?_
  refine lv_iload hx hb dL_law_2190 (lv_at hl 0 rfl) ?_
  refine lv_iconst (v := 1) hx hb dL_law_2192 (by decide) ?_
  refine lv_iadd hx hb dL_law_2193 ?_
  refine fz_I (y := 1) (by decide) ?_
  refine va_sld hx hb hX hbl hbA hS (fz_vin (by decide)) dL_law_2194 ?_
  refine fz_I (y := x1) ex1.symm ?_
  refine lv_aload_n hx hb dL_law_2195 rfl (lv_at hl 2 rfl) ?_
  have hPc := hP.sub (ws' := (fz_WC k q f pa v ++ ([(o, .inl (k 5, 1, .inr (.inl g)))]))) [0, 1, 2, 3, 4, 5, 6, 7, 8, 9, 10, 11, 12, 13, 14, 15, 16, 17, 18, 19, 20, 21, 22, 23, 24, 25, 26, 27, 28, 29, 30, 31, 32, 33, 34, 35, 36, 37, 38] rfl
  have hDc : va_D (va_A (fz_WC k q f pa v ++ ([(o, .inl (k 5, 1, .inr (.inl g)))])) H.size) (fz_WC k q f pa v ++ ([(o, .inl (k 5, 1, .inr (.inl g)))])) := (hD.sub (ws' := (fz_WC k q f pa v ++ ([(o, .inl (k 5, 1, .inr (.inl g)))]))) [0, 1, 2, 3, 4, 5, 6, 7, 8, 9, 10, 11, 12, 13, 14, 15, 16, 17, 18, 19, 20, 21, 22, 23, 24, 25, 26, 27, 28, 29, 30, 31, 32, 33, 34, 35, 36, 37, 38] (by decide) rfl).self
  have hFc := va_free (wc := (fz_WC k q f pa v ++ ([(o, .inl (k 5, 1, .inr (.inl g)))]))) hD hS hA [0, 1, 2, 3, 4, 5, 6, 7, 8, 9, 10, 11, 12, 13, 14, 15, 16, 17, 18, 19, 20, 21, 22, 23, 24, 25, 26, 27, 28, 29, 30, 31, 32, 33, 34, 35, 36, 37, 38] rfl
  refine fz_hSi (As := [.ref (q 31), .int x1, .ref o]) (rest := []) S0 (h_read l hl0 (va_A (fz_WC k q f pa v ++ ([(o, .inl (k 5, 1, .inr (.inl g)))])) H.size) D k q f pa v o g x1 g_v_1 g_f_4_0 g_v_12) (vx_cwSW 3 hts9 (fz_gSW fm_791 fm_991 fm_992 fm_816) rfl rfl rfl ⟨by decide, by decide, by decide +kernel⟩ ⟨Nat.le_of_ble_eq_true rfl, Nat.le_of_ble_eq_true rfl⟩) hFc (fun a9 h9 => Or.inr h9) hG hS hPc hK hDc rfl hl.1 rfl (Nat.le_of_ble_eq_true rfl) dL_law_2196 ⟨Nat.le_of_ble_eq_true rfl, Nat.le_of_ble_eq_true rfl⟩ (fun r_1 u_1 H locs hw hz1 hk1 hP1 hS => ?_)
  obtain ⟨hP, hD⟩ := va_join (wr := ([(o2, .inl (k 6, 1, .inr (.inr (.inr (.inl g2)))))] ++ (fz_WM k q2 f2 pa2 v2))) (w1 := ([(o, .inl (k 5, 1, .inr (.inl u_1)))])) hP hD [0, 1, 2, 3, 4, 5, 6, 7, 8, 9, 10, 11, 12, 13, 14, 15, 16, 17, 18, 19, 20, 21, 22, 23, 24, 25, 26, 27, 28, 29, 30, 31, 32, 33, 34, 35, 36, 37, 38] [39, 40, 41, 42, 43, 44, 45, 46, 47] rfl rfl (by decide) (by decide) hk1 hFc hP1 (fz_Dsame (hDc.sub (ws' := [(o, .inl (k 5, 1, .inr (.inl g)))]) [38] (by decide) rfl) rfl)
  have hP : va_P D vwCl ([(o2, .inl (k 6, 1, .inr (.inr (.inr (.inl g2)))))] ++ (fz_WM k q2 f2 pa2 v2 ++ ([(o, .inl (k 5, 1, .inr (.inl u_1)))]))) H := hP
  have hD : va_D (fun q : Nat => s.heap.size ≤ q) ([(o2, .inl (k 6, 1, .inr (.inr (.inr (.inl g2)))))] ++ (fz_WM k q2 f2 pa2 v2 ++ ([(o, .inl (k 5, 1, .inr (.inl u_1)))]))) := hD
  rcases hw with ⟨rfl, hu_1, hc_1⟩ | ⟨rfl, hc_1⟩
  · skip
    obtain rfl : x1 = 0 := (fq_27 x1 hc_1)
    refine lv_istore (lv' := [(6, .int 0), (5, .int 0), (4, .ref o2), (3, .ref o), (2, .ref (q2 0)), (1, .ref (q 31)), (0, .ref b)]) hx hb dL_law_2199 hl (by decide) rfl (fun ls hl => ?_)
    refine lv_aload_n hx hb dL_law_2201 rfl (lv_at hl 4 rfl) ?_
    refine lv_aload_n hx hb dL_law_2202 rfl (lv_at hl 6 rfl) ?_
    refine lv_iload hx hb dL_law_2203 (lv_at hl 1 rfl) ?_
    refine lv_iconst (v := 1) hx hb dL_law_2205 (by decide) ?_
    refine lv_iadd hx hb dL_law_2206 ?_
    refine fz_I (y := 1) (by decide) ?_
    refine va_sld hx hb hX hbl hbA hS (fz_vin (by decide)) dL_law_2207 ?_
    refine fz_I (y := 0) ex1.symm ?_
    have hPc := hP.sub (ws' := (fz_WM k q2 f2 pa2 v2)) [1, 2, 3, 4, 5, 6, 7, 8] rfl
    have hDc : va_D (va_A (fz_WM k q2 f2 pa2 v2) H.size) (fz_WM k q2 f2 pa2 v2) := (hD.sub (ws' := (fz_WM k q2 f2 pa2 v2)) [1, 2, 3, 4, 5, 6, 7, 8] (by decide) rfl).self
    have hFc := va_free (wc := (fz_WM k q2 f2 pa2 v2)) hD hS hA [1, 2, 3, 4, 5, 6, 7, 8] rfl
    refine fz_cVi (As := [.int 0]) (rest := []) S0 (m_p_read l (va_A (fz_WM k q2 f2 pa2 v2) H.size) D k q2 f2 pa2 v2 0 n_f_1_0 n_f_1_7 n_v_15) (fz_cwV (C := RX10) 1 hts9 fm_993 fm_994 fm_995 fm_996 fm_469 rfl rfl ⟨by decide, by decide, by decide +kernel⟩ ⟨Nat.le_of_ble_eq_true rfl, Nat.le_of_ble_eq_true rfl⟩) (va_recv hK hPc (ci := 14) (q0 := 0) rfl rfl) hFc (fun a9 h9 => Or.inr h9) hG hS hPc hK hDc rfl hl.1 rfl (Nat.le_of_ble_eq_true rfl) dL_law_2208 ⟨Nat.le_of_ble_eq_true rfl, Nat.le_of_ble_eq_true rfl⟩ (fun r_2 u_2 H locs hw hz1 hk1 hP1 hS => ?_)
    obtain ⟨hP, hD⟩ := va_join (wr := ([(o2, .inl (k 6, 1, .inr (.inr (.inr (.inl g2)))))] ++ ([(o, .inl (k 5, 1, .inr (.inl u_1)))]))) (w1 := (fz_MO q2 u_2)) hP hD [1, 2, 3, 4, 5, 6, 7, 8] [0, 9] rfl rfl (by decide) (by decide) hk1 hFc hP1 (fz_Dsame (hDc.sub (ws' := fz_MO q2 v2) [0] (by decide) rfl) rfl)
    have hP : va_P D vwCl ([(o2, .inl (k 6, 1, .inr (.inr (.inr (.inl g2)))))] ++ ([(o, .inl (k 5, 1, .inr (.inl u_1)))] ++ (fz_MO q2 u_2))) H := hP
    have hD : va_D (fun q : Nat => s.heap.size ≤ q) ([(o2, .inl (k 6, 1, .inr (.inr (.inr (.inl g2)))))] ++ ([(o, .inl (k 5, 1, .inr (.inl u_1)))] ++ (fz_MO q2 u_2))) := hD
    rcases hw with ⟨rfl, ht_2, hc_2⟩ | ⟨rfl, ht_2, hc_2⟩
    · skip
      exact (fq_112 hc_2).elim
    · skip
      refine lv_istore (lv' := [(7, .int (-100)), (6, .int 0), (5, .int 0), (4, .ref o2), (3, .ref o), (2, .ref (q2 0)), (1, .ref (q 31)), (0, .ref b)]) hx hb dL_law_2211 hl (by decide) rfl (fun ls hl => ?_)
      refine lv_aload_n hx hb dL_law_2213 rfl (lv_at hl 5 rfl) ?_
      have hPc := hP.sub (ws' := (fz_MO q2 u_2)) [2] rfl
      have hDc : va_D (va_A (fz_MO q2 u_2) H.size) (fz_MO q2 u_2) := (hD.sub (ws' := (fz_MO q2 u_2)) [2] (by decide) rfl).self
      have hFc := va_free (wc := (fz_MO q2 u_2)) hD hS hA [2] rfl
      refine fz_cVi (As := []) (rest := []) S0 (m_thrown l (va_A (fz_MO q2 u_2) H.size) D k q2 u_2) (fz_cwV (C := RX10) 0 hts9 fm_823 fm_824 fm_825 fm_826 fm_469 rfl rfl ⟨by decide, by decide, by decide +kernel⟩ ⟨Nat.le_of_ble_eq_true rfl, Nat.le_of_ble_eq_true rfl⟩) (va_recv hK hPc (ci := 14) (q0 := 0) rfl rfl) hFc (fun a9 h9 => Or.inr h9) hG hS hPc hK hDc rfl hl.1 rfl (Nat.le_of_ble_eq_true rfl) dL_law_2214 ⟨Nat.le_of_ble_eq_true rfl, Nat.le_of_ble_eq_true rfl⟩ (fun r_3 u_3 H locs hw hz1 hk1 hP1 hS => ?_)
      obtain ⟨hP, hD⟩ := va_join (wr := ([(o2, .inl (k 6, 1, .inr (.inr (.inr (.inl g2)))))] ++ ([(o, .inl (k 5, 1, .inr (.inl u_1)))]))) (w1 := (fz_MO q2 u_2)) hP hD [2] [0, 1] rfl rfl (by decide) (by decide) hk1 hFc hP1 hDc
      have hP : va_P D vwCl ([(o2, .inl (k 6, 1, .inr (.inr (.inr (.inl g2)))))] ++ ([(o, .inl (k 5, 1, .inr (.inl u_1)))] ++ (fz_MO q2 u_2))) H := hP
      have hD : va_D (fun q : Nat => s.heap.size ≤ q) ([(o2, .inl (k 6, 1, .inr (.inr (.inr (.inl g2)))))] ++ ([(o, .inl (k 5, 1, .inr (.inl u_1)))] ++ (fz_MO q2 u_2))) := hD
      obtain rfl : r_3 = u_2 0 := hw
      refine fz_I (y := 0) ht_2 ?_
      refine lv_iload hx hb dL_law_2217 (lv_at hl 1 rfl) ?_
      refine lv_icmp_eq (tgt := 2224) hx hb dL_law_2219 (by decide) (fun c9 => ?_) (fun c9 => absurd (by decide) c9)
      refine lv_iload hx hb dL_law_2224 (lv_at hl 1 rfl) ?_
      refine lv_if_ne (tgt := 2241) hx hb dL_law_2226 (by decide) (fun c9 => absurd (by decide) c9) (fun c9 => ?_)
      refine lv_aload_n hx hb dL_law_2229 rfl (lv_at hl 4 rfl) ?_
      refine lv_iconst (v := 0) hx hb dL_law_2230 (by decide) ?_
      refine va_lald hx hb hK hP 1 5 rfl rfl (fz_vin (by decide)) dL_law_2231 ?_
      refine fz_V (y := .long (((-100) : Int32).toInt64)) (congrArg Value.long hu_1) ?_
      refine lv_iload hx hb dL_law_2232 (lv_at hl 0 rfl) ?_
      refine lv_i2l (v := ((-100) : Int32).toInt64) hx hb dL_law_2234 rfl ?_
      refine W.lcmp hx hb dL_law_2235 ?_
      refine fz_I (y := 0) (by decide) ?_
      refine lv_if_eq (tgt := 2241) hx hb dL_law_2236 (by decide) (fun c9 => ?_) (fun c9 => absurd (by decide) c9)
      refine lv_goto (tgt := 2457) hx hb dL_law_2241 (by decide) ?_
      exact lw_tail hL C0 (Nat.le_of_ble_eq_true rfl) (Nat.le_of_ble_eq_true rfl) hS ls (lv_sub hl [2, 7] rfl)
  · skip
    refine lv_istore (lv' := [(6, .int 1), (5, .int 0), (4, .ref o2), (3, .ref o), (2, .ref (q2 0)), (1, .ref (q 31)), (0, .ref b)]) hx hb dL_law_2199 hl (by decide) rfl (fun ls hl => ?_)
    refine lv_aload_n hx hb dL_law_2201 rfl (lv_at hl 4 rfl) ?_
    refine lv_aload_n hx hb dL_law_2202 rfl (lv_at hl 6 rfl) ?_
    refine lv_iload hx hb dL_law_2203 (lv_at hl 1 rfl) ?_
    refine lv_iconst (v := 1) hx hb dL_law_2205 (by decide) ?_
    refine lv_iadd hx hb dL_law_2206 ?_
    refine fz_I (y := 1) (by decide) ?_
    refine va_sld hx hb hX hbl hbA hS (fz_vin (by decide)) dL_law_2207 ?_
    refine fz_I (y := x1) ex1.symm ?_
    have hPc := hP.sub (ws' := (fz_WM k q2 f2 pa2 v2)) [1, 2, 3, 4, 5, 6, 7, 8] rfl
    have hDc : va_D (va_A (fz_WM k q2 f2 pa2 v2) H.size) (fz_WM k q2 f2 pa2 v2) := (hD.sub (ws' := (fz_WM k q2 f2 pa2 v2)) [1, 2, 3, 4, 5, 6, 7, 8] (by decide) rfl).self
    have hFc := va_free (wc := (fz_WM k q2 f2 pa2 v2)) hD hS hA [1, 2, 3, 4, 5, 6, 7, 8] rfl
    refine fz_cVi (As := [.int x1]) (rest := []) S0 (m_p_read l (va_A (fz_WM k q2 f2 pa2 v2) H.size) D k q2 f2 pa2 v2 x1 n_f_1_0 n_f_1_7 n_v_15) (fz_cwV (C := RX10) 1 hts9 fm_993 fm_994 fm_995 fm_996 fm_469 rfl rfl ⟨by decide, by decide, by decide +kernel⟩ ⟨Nat.le_of_ble_eq_true rfl, Nat.le_of_ble_eq_true rfl⟩) (va_recv hK hPc (ci := 14) (q0 := 0) rfl rfl) hFc (fun a9 h9 => Or.inr h9) hG hS hPc hK hDc rfl hl.1 rfl (Nat.le_of_ble_eq_true rfl) dL_law_2208 ⟨Nat.le_of_ble_eq_true rfl, Nat.le_of_ble_eq_true rfl⟩ (fun r_2 u_2 H locs hw hz1 hk1 hP1 hS => ?_)
    obtain ⟨hP, hD⟩ := va_join (wr := ([(o2, .inl (k 6, 1, .inr (.inr (.inr (.inl g2)))))] ++ ([(o, .inl (k 5, 1, .inr (.inl u_1)))]))) (w1 := (fz_MO q2 u_2)) hP hD [1, 2, 3, 4, 5, 6, 7, 8] [0, 9] rfl rfl (by decide) (by decide) hk1 hFc hP1 (fz_Dsame (hDc.sub (ws' := fz_MO q2 v2) [0] (by decide) rfl) rfl)
    have hP : va_P D vwCl ([(o2, .inl (k 6, 1, .inr (.inr (.inr (.inl g2)))))] ++ ([(o, .inl (k 5, 1, .inr (.inl u_1)))] ++ (fz_MO q2 u_2))) H := hP
    have hD : va_D (fun q : Nat => s.heap.size ≤ q) ([(o2, .inl (k 6, 1, .inr (.inr (.inr (.inl g2)))))] ++ ([(o, .inl (k 5, 1, .inr (.inl u_1)))] ++ (fz_MO q2 u_2))) := hD
    rcases hw with ⟨rfl, ht_2, hc_2⟩ | ⟨rfl, ht_2, hc_2⟩
    · skip
      refine lv_istore (lv' := [(7, .int 0), (6, .int 1), (5, .int 0), (4, .ref o2), (3, .ref o), (2, .ref (q2 0)), (1, .ref (q 31)), (0, .ref b)]) hx hb dL_law_2211 hl (by decide) rfl (fun ls hl => ?_)
      refine lv_aload_n hx hb dL_law_2213 rfl (lv_at hl 5 rfl) ?_
      have hPc := hP.sub (ws' := (fz_MO q2 u_2)) [2] rfl
      have hDc : va_D (va_A (fz_MO q2 u_2) H.size) (fz_MO q2 u_2) := (hD.sub (ws' := (fz_MO q2 u_2)) [2] (by decide) rfl).self
      have hFc := va_free (wc := (fz_MO q2 u_2)) hD hS hA [2] rfl
      refine fz_cVi (As := []) (rest := []) S0 (m_thrown l (va_A (fz_MO q2 u_2) H.size) D k q2 u_2) (fz_cwV (C := RX10) 0 hts9 fm_823 fm_824 fm_825 fm_826 fm_469 rfl rfl ⟨by decide, by decide, by decide +kernel⟩ ⟨Nat.le_of_ble_eq_true rfl, Nat.le_of_ble_eq_true rfl⟩) (va_recv hK hPc (ci := 14) (q0 := 0) rfl rfl) hFc (fun a9 h9 => Or.inr h9) hG hS hPc hK hDc rfl hl.1 rfl (Nat.le_of_ble_eq_true rfl) dL_law_2214 ⟨Nat.le_of_ble_eq_true rfl, Nat.le_of_ble_eq_true rfl⟩ (fun r_3 u_3 H locs hw hz1 hk1 hP1 hS => ?_)
      obtain ⟨hP, hD⟩ := va_join (wr := ([(o2, .inl (k 6, 1, .inr (.inr (.inr (.inl g2)))))] ++ ([(o, .inl (k 5, 1, .inr (.inl u_1)))]))) (w1 := (fz_MO q2 u_2)) hP hD [2] [0, 1] rfl rfl (by decide) (by decide) hk1 hFc hP1 hDc
      have hP : va_P D vwCl ([(o2, .inl (k 6, 1, .inr (.inr (.inr (.inl g2)))))] ++ ([(o, .inl (k 5, 1, .inr (.inl u_1)))] ++ (fz_MO q2 u_2))) H := hP
      have hD : va_D (fun q : Nat => s.heap.size ≤ q) ([(o2, .inl (k 6, 1, .inr (.inr (.inr (.inl g2)))))] ++ ([(o, .inl (k 5, 1, .inr (.inl u_1)))] ++ (fz_MO q2 u_2))) := hD
      obtain rfl : r_3 = u_2 0 := hw
      refine fz_I (y := 1) ht_2 ?_
      refine lv_iload hx hb dL_law_2217 (lv_at hl 1 rfl) ?_
      refine lv_icmp_eq (tgt := 2224) hx hb dL_law_2219 (by decide) (fun c9 => ?_) (fun c9 => absurd (by decide) c9)
      refine lv_iload hx hb dL_law_2224 (lv_at hl 1 rfl) ?_
      refine lv_if_ne (tgt := 2241) hx hb dL_law_2226 (by decide) (fun c9 => ?_) (fun c9 => absurd c9 (by decide))
      refine lv_goto (tgt := 2457) hx hb dL_law_2241 (by decide) ?_
      exact lw_tail hL C0 (Nat.le_of_ble_eq_true rfl) (Nat.le_of_ble_eq_true rfl) hS ls (lv_sub hl [2, 7] rfl)
    · skip
      exact (fq_136 x1 hc_1 hc_2).elim

set_option maxHeartbeats 8000000 in
set_option maxRecDepth 100000 in
theorem lw_case31 {p : Program} {l : Launch} {e : Env} {s : State} {m : MethodId} {below : List Frame} {meth : Method} {c : Code} {D : va_G} {b L : Nat} {xs : Nat → Int32} (hl0 : l.stackTraces = false) (hL : L = 6) (C0 : lw_At p s m meth c b L xs) (hG : fz_GS (fun q : Nat => s.heap.size ≤ q) s) (k : Nat → ClassId) (hK : va_K D vwCl (fz_tys k) s) (q q2 : Nat → Nat) (f f2 : Nat → Nat → Int32) (pa pa2 : Nat → Option Nat) (v v2 : Nat → Int32) (o o2 : Nat) (g : Nat → Int64) (g2 : Nat → UInt64) (hF : fz_LF q2 f pa v f2 pa2 v2) (H : Heap) (locs : List Loc) (hP : va_P D vwCl (fz_WC k q f pa v ++ ([(o, .inl (k 5, 1, .inr (.inl g)))] ++ ([(o2, .inl (k 6, 1, .inr (.inr (.inr (.inl g2)))))] ++ (fz_WM k q2 f2 pa2 v2)))) H) (hD : va_D (fun q : Nat => s.heap.size ≤ q) (fz_WC k q f pa v ++ ([(o, .inl (k 5, 1, .inr (.inl g)))] ++ ([(o2, .inl (k 6, 1, .inr (.inr (.inr (.inl g2)))))] ++ (fz_WM k q2 f2 pa2 v2))))) (hS : va_S (fun q : Nat => s.heap.size ≤ q) s.heap H locs) (ls : Array Slot) (hl : lv_has ls 9 [(5, .int 0), (4, .ref o2), (3, .ref o), (2, .ref (q2 0)), (1, .ref (q 31)), (0, .ref b)]) :
    W p l e room_1 s m #[Value.ref b] below meth c H locs 2000 400000 (lw_Z below #[Value.ref b] s) (F0 m 2244 ls []) := by
  obtain ⟨g_v_0, g_v_1, g_v_2, g_v_3, g_v_4, g_v_5, g_v_6, g_v_7, g_v_8, g_v_9, g_v_10, g_v_11, g_v_12, g_v_13, g_v_14, g_v_15, g_v_17, g_f_2_0, g_f_4_0, g_f_5_0, g_f_6_0, g_f_7_0, g_f_8_0, g_f_9_0, g_f_11_0, g_f_18_0, g_f_19_0, g_pa_0, g_pa_1, g_pa_8, n_v_0, n_v_5, n_v_6, n_v_7, n_v_8, n_v_9, n_v_10, n_v_11, n_v_12, n_v_13, n_v_15, n_v_16, n_v_17, n_v_18, n_v_19, n_v_21, n_f_1_0, n_f_1_1, n_f_1_2, n_f_1_3, n_f_1_4, n_f_1_5, n_f_1_6, n_f_1_7, n_f_1_8, n_f_1_9, n_f_1_10, n_f_1_11, n_f_1_12, n_f_1_13, n_f_1_15, n_f_1_16, n_f_1_17, n_pb_0⟩ := hF
  obtain ⟨hx, hb, hr, hml, hown, hts, hX, hbl, hlocks, hgv⟩ := id C0
  subst hL
  have hL : (6 : Nat) = 6 := rfl
  have hA : ∀ q : Nat, s.heap.size ≤ q → (fun q : Nat => s.heap.size ≤ q) q := fun _ h => h
  have hbA : ¬ (fun q : Nat => s.heap.size ≤ q) b := Nat.not_le.mpr hbl
  have hts9 := fz_hts9 hts
  have hown : s.vm.findClass RL = some m.cls := hown
  have S0 : CallFix p m c code 9 s #[Value.ref b] (Cond.initialized RL :: fz_WA) RL := ⟨hx, hb, hml, hown, hts9⟩
  obtain ⟨x1, ex1⟩ : ∃ z, z = xs 1 := ⟨_, rfl⟩
  obtain ⟨x2, ex2⟩ : ∃ z, z = xs 2 := ⟨_, rfl⟩
  obtain ⟨x3, ex3⟩ : ∃ z, z = xs 3 := ⟨_, rfl⟩
  obtain ⟨x4, ex4⟩ : ∃ z, z = xs 4 := ⟨_, rfl⟩
  obtain ⟨x5, ex5⟩ : ∃ z, z = xs 5 := ⟨_, rfl⟩
  refine lv_aload_n hx hb dL_law_2244 rfl (lv_at hl 4 rfl) ?_
  refine lv_aload_n hx hb dL_law_2245 rfl (lv_at hl 5 rfl) ?_
  refine lv_iload hx hb dL_law_2246 (lv_at hl 0 rfl) ?_
  refine lv_iconst (v := 1) hx hb dL_law_2248 (by decide) ?_
  refine lv_iadd hx hb dL_law_2249 ?_
  refine fz_I (y := 1) (by decide) ?_
  refine va_sld hx hb hX hbl hbA hS (fz_vin (by decide)) dL_law_2250 ?_
  refine fz_I (y := x1) ex1.symm ?_
  refine lv_aload_n hx hb dL_law_2251 rfl (lv_at hl 2 rfl) ?_
  have hPc := hP.sub (ws' := (fz_WC k q f pa v ++ ([(o, .inl (k 5, 1, .inr (.inl g)))]))) [0, 1, 2, 3, 4, 5, 6, 7, 8, 9, 10, 11, 12, 13, 14, 15, 16, 17, 18, 19, 20, 21, 22, 23, 24, 25, 26, 27, 28, 29, 30, 31, 32, 33, 34, 35, 36, 37, 38] rfl
  have hDc : va_D (va_A (fz_WC k q f pa v ++ ([(o, .inl (k 5, 1, .inr (.inl g)))])) H.size) (fz_WC k q f pa v ++ ([(o, .inl (k 5, 1, .inr (.inl g)))])) := (hD.sub (ws' := (fz_WC k q f pa v ++ ([(o, .inl (k 5, 1, .inr (.inl g)))]))) [0, 1, 2, 3, 4, 5, 6, 7, 8, 9, 10, 11, 12, 13, 14, 15, 16, 17, 18, 19, 20, 21, 22, 23, 24, 25, 26, 27, 28, 29, 30, 31, 32, 33, 34, 35, 36, 37, 38] (by decide) rfl).self
  have hFc := va_free (wc := (fz_WC k q f pa v ++ ([(o, .inl (k 5, 1, .inr (.inl g)))]))) hD hS hA [0, 1, 2, 3, 4, 5, 6, 7, 8, 9, 10, 11, 12, 13, 14, 15, 16, 17, 18, 19, 20, 21, 22, 23, 24, 25, 26, 27, 28, 29, 30, 31, 32, 33, 34, 35, 36, 37, 38] rfl
  refine fz_hSi (As := [.ref (q 31), .int x1, .ref o]) (rest := []) S0 (h_write l hl0 (va_A (fz_WC k q f pa v ++ ([(o, .inl (k 5, 1, .inr (.inl g)))])) H.size) D k q f pa v o g x1 g_v_1 g_f_4_0 g_v_15 g_v_17 g_v_2 g_f_6_0 g_f_5_0 g_f_2_0 g_f_7_0 g_f_8_0) (vx_cwSW 3 hts9 (fz_gSW fm_796 fm_997 fm_998 fm_816) rfl rfl rfl ⟨by decide, by decide, by decide +kernel⟩ ⟨Nat.le_of_ble_eq_true rfl, Nat.le_of_ble_eq_true rfl⟩) hFc (fun a9 h9 => Or.inr h9) hG hS hPc hK hDc rfl hl.1 rfl (Nat.le_of_ble_eq_true rfl) dL_law_2252 ⟨Nat.le_of_ble_eq_true rfl, Nat.le_of_ble_eq_true rfl⟩ (fun r_1 u_1 H locs hw hz1 hk1 hP1 hS => ?_)
  obtain ⟨hP, hD⟩ := va_join (wr := ([(o2, .inl (k 6, 1, .inr (.inr (.inr (.inl g2)))))] ++ (fz_WM k q2 f2 pa2 v2))) (w1 := ([(o, .inl (k 5, 1, .inr (.inl u_1)))])) hP hD [0, 1, 2, 3, 4, 5, 6, 7, 8, 9, 10, 11, 12, 13, 14, 15, 16, 17, 18, 19, 20, 21, 22, 23, 24, 25, 26, 27, 28, 29, 30, 31, 32, 33, 34, 35, 36, 37, 38] [39, 40, 41, 42, 43, 44, 45, 46, 47] rfl rfl (by decide) (by decide) hk1 hFc hP1 (fz_Dsame (hDc.sub (ws' := [(o, .inl (k 5, 1, .inr (.inl g)))]) [38] (by decide) rfl) rfl)
  have hP : va_P D vwCl ([(o2, .inl (k 6, 1, .inr (.inr (.inr (.inl g2)))))] ++ (fz_WM k q2 f2 pa2 v2 ++ ([(o, .inl (k 5, 1, .inr (.inl u_1)))]))) H := hP
  have hD : va_D (fun q : Nat => s.heap.size ≤ q) ([(o2, .inl (k 6, 1, .inr (.inr (.inr (.inl g2)))))] ++ (fz_WM k q2 f2 pa2 v2 ++ ([(o, .inl (k 5, 1, .inr (.inl u_1)))]))) := hD
  rcases hw with ⟨rfl, hu_1, hc_1⟩ | ⟨rfl, hc_1⟩
  · skip
    obtain rfl : x1 = 0 := (fq_27 x1 hc_1)
    refine lv_istore (lv' := [(6, .int 0), (5, .int 0), (4, .ref o2), (3, .ref o), (2, .ref (q2 0)), (1, .ref (q 31)), (0, .ref b)]) hx hb dL_law_2255 hl (by decide) rfl (fun ls hl => ?_)
    refine lv_aload_n hx hb dL_law_2257 rfl (lv_at hl 4 rfl) ?_
    refine lv_aload_n hx hb dL_law_2258 rfl (lv_at hl 6 rfl) ?_
    refine lv_iload hx hb dL_law_2259 (lv_at hl 1 rfl) ?_
    refine lv_iconst (v := 1) hx hb dL_law_2261 (by decide) ?_
    refine lv_iadd hx hb dL_law_2262 ?_
    refine fz_I (y := 1) (by decide) ?_
    refine va_sld hx hb hX hbl hbA hS (fz_vin (by decide)) dL_law_2263 ?_
    refine fz_I (y := 0) ex1.symm ?_
    have hPc := hP.sub (ws' := (fz_WM k q2 f2 pa2 v2)) [1, 2, 3, 4, 5, 6, 7, 8] rfl
    have hDc : va_D (va_A (fz_WM k q2 f2 pa2 v2) H.size) (fz_WM k q2 f2 pa2 v2) := (hD.sub (ws' := (fz_WM k q2 f2 pa2 v2)) [1, 2, 3, 4, 5, 6, 7, 8] (by decide) rfl).self
    have hFc := va_free (wc := (fz_WM k q2 f2 pa2 v2)) hD hS hA [1, 2, 3, 4, 5, 6, 7, 8] rfl
    refine fz_cVi (As := [.int 0]) (rest := []) S0 (m_p_write l (va_A (fz_WM k q2 f2 pa2 v2) H.size) D k q2 f2 pa2 v2 0 n_f_1_0 n_f_1_7 n_f_1_8 n_f_1_10 n_f_1_11) (fz_cwV (C := RX10) 1 hts9 fm_999 fm_1000 fm_1001 fm_1002 fm_469 rfl rfl ⟨by decide, by decide, by decide +kernel⟩ ⟨Nat.le_of_ble_eq_true rfl, Nat.le_of_ble_eq_true rfl⟩) (va_recv hK hPc (ci := 14) (q0 := 0) rfl rfl) hFc (fun a9 h9 => Or.inr h9) hG hS hPc hK hDc rfl hl.1 rfl (Nat.le_of_ble_eq_true rfl) dL_law_2264 ⟨Nat.le_of_ble_eq_true rfl, Nat.le_of_ble_eq_true rfl⟩ (fun r_2 u_2 H locs hw hz1 hk1 hP1 hS => ?_)
    obtain ⟨hP, hD⟩ := va_join (wr := ([(o2, .inl (k 6, 1, .inr (.inr (.inr (.inl g2)))))] ++ ([(o, .inl (k 5, 1, .inr (.inl u_1)))]))) (w1 := (fz_MO q2 u_2)) hP hD [1, 2, 3, 4, 5, 6, 7, 8] [0, 9] rfl rfl (by decide) (by decide) hk1 hFc hP1 (fz_Dsame (hDc.sub (ws' := fz_MO q2 v2) [0] (by decide) rfl) rfl)
    have hP : va_P D vwCl ([(o2, .inl (k 6, 1, .inr (.inr (.inr (.inl g2)))))] ++ ([(o, .inl (k 5, 1, .inr (.inl u_1)))] ++ (fz_MO q2 u_2))) H := hP
    have hD : va_D (fun q : Nat => s.heap.size ≤ q) ([(o2, .inl (k 6, 1, .inr (.inr (.inr (.inl g2)))))] ++ ([(o, .inl (k 5, 1, .inr (.inl u_1)))] ++ (fz_MO q2 u_2))) := hD
    rcases hw with ⟨rfl, ht_2, hc_2⟩ | ⟨rfl, ht_2, hc_2⟩
    · skip
      exact (fq_112 hc_2).elim
    · skip
      refine lv_istore (lv' := [(7, .int 1), (6, .int 0), (5, .int 0), (4, .ref o2), (3, .ref o), (2, .ref (q2 0)), (1, .ref (q 31)), (0, .ref b)]) hx hb dL_law_2267 hl (by decide) rfl (fun ls hl => ?_)
      refine lv_aload_n hx hb dL_law_2269 rfl (lv_at hl 5 rfl) ?_
      have hPc := hP.sub (ws' := (fz_MO q2 u_2)) [2] rfl
      have hDc : va_D (va_A (fz_MO q2 u_2) H.size) (fz_MO q2 u_2) := (hD.sub (ws' := (fz_MO q2 u_2)) [2] (by decide) rfl).self
      have hFc := va_free (wc := (fz_MO q2 u_2)) hD hS hA [2] rfl
      refine fz_cVi (As := []) (rest := []) S0 (m_thrown l (va_A (fz_MO q2 u_2) H.size) D k q2 u_2) (fz_cwV (C := RX10) 0 hts9 fm_823 fm_824 fm_825 fm_826 fm_469 rfl rfl ⟨by decide, by decide, by decide +kernel⟩ ⟨Nat.le_of_ble_eq_true rfl, Nat.le_of_ble_eq_true rfl⟩) (va_recv hK hPc (ci := 14) (q0 := 0) rfl rfl) hFc (fun a9 h9 => Or.inr h9) hG hS hPc hK hDc rfl hl.1 rfl (Nat.le_of_ble_eq_true rfl) dL_law_2270 ⟨Nat.le_of_ble_eq_true rfl, Nat.le_of_ble_eq_true rfl⟩ (fun r_3 u_3 H locs hw hz1 hk1 hP1 hS => ?_)
      obtain ⟨hP, hD⟩ := va_join (wr := ([(o2, .inl (k 6, 1, .inr (.inr (.inr (.inl g2)))))] ++ ([(o, .inl (k 5, 1, .inr (.inl u_1)))]))) (w1 := (fz_MO q2 u_2)) hP hD [2] [0, 1] rfl rfl (by decide) (by decide) hk1 hFc hP1 hDc
      have hP : va_P D vwCl ([(o2, .inl (k 6, 1, .inr (.inr (.inr (.inl g2)))))] ++ ([(o, .inl (k 5, 1, .inr (.inl u_1)))] ++ (fz_MO q2 u_2))) H := hP
      have hD : va_D (fun q : Nat => s.heap.size ≤ q) ([(o2, .inl (k 6, 1, .inr (.inr (.inr (.inl g2)))))] ++ ([(o, .inl (k 5, 1, .inr (.inl u_1)))] ++ (fz_MO q2 u_2))) := hD
      obtain rfl : r_3 = u_2 0 := hw
      refine fz_I (y := 0) ht_2 ?_
      refine lv_iload hx hb dL_law_2273 (lv_at hl 1 rfl) ?_
      refine lv_icmp_eq (tgt := 2280) hx hb dL_law_2275 (by decide) (fun c9 => ?_) (fun c9 => absurd (by decide) c9)
      refine lv_iload hx hb dL_law_2280 (lv_at hl 1 rfl) ?_
      refine lv_if_ne (tgt := 2297) hx hb dL_law_2282 (by decide) (fun c9 => absurd (by decide) c9) (fun c9 => ?_)
      refine lv_aload_n hx hb dL_law_2285 rfl (lv_at hl 4 rfl) ?_
      refine lv_iconst (v := 0) hx hb dL_law_2286 (by decide) ?_
      refine va_lald hx hb hK hP 1 5 rfl rfl (fz_vin (by decide)) dL_law_2287 ?_
      refine fz_V (y := .long ((1 : Int32).toInt64)) (congrArg Value.long hu_1) ?_
      refine lv_iload hx hb dL_law_2288 (lv_at hl 0 rfl) ?_
      refine lv_i2l (v := (1 : Int32).toInt64) hx hb dL_law_2290 rfl ?_
      refine W.lcmp hx hb dL_law_2291 ?_
      refine fz_I (y := 0) (by decide) ?_
      refine lv_if_eq (tgt := 2297) hx hb dL_law_2292 (by decide) (fun c9 => ?_) (fun c9 => absurd (by decide) c9)
      refine lv_goto (tgt := 2457) hx hb dL_law_2297 (by decide) ?_
      exact lw_tail hL C0 (Nat.le_of_ble_eq_true rfl) (Nat.le_of_ble_eq_true rfl) hS ls (lv_sub hl [2, 7] rfl)
  · skip
    refine lv_istore (lv' := [(6, .int 1), (5, .int 0), (4, .ref o2), (3, .ref o), (2, .ref (q2 0)), (1, .ref (q 31)), (0, .ref b)]) hx hb dL_law_2255 hl (by decide) rfl (fun ls hl => ?_)
    refine lv_aload_n hx hb dL_law_2257 rfl (lv_at hl 4 rfl) ?_
    refine lv_aload_n hx hb dL_law_2258 rfl (lv_at hl 6 rfl) ?_
    refine lv_iload hx hb dL_law_2259 (lv_at hl 1 rfl) ?_
    refine lv_iconst (v := 1) hx hb dL_law_2261 (by decide) ?_
    refine lv_iadd hx hb dL_law_2262 ?_
    refine fz_I (y := 1) (by decide) ?_
    refine va_sld hx hb hX hbl hbA hS (fz_vin (by decide)) dL_law_2263 ?_
    refine fz_I (y := x1) ex1.symm ?_
    have hPc := hP.sub (ws' := (fz_WM k q2 f2 pa2 v2)) [1, 2, 3, 4, 5, 6, 7, 8] rfl
    have hDc : va_D (va_A (fz_WM k q2 f2 pa2 v2) H.size) (fz_WM k q2 f2 pa2 v2) := (hD.sub (ws' := (fz_WM k q2 f2 pa2 v2)) [1, 2, 3, 4, 5, 6, 7, 8] (by decide) rfl).self
    have hFc := va_free (wc := (fz_WM k q2 f2 pa2 v2)) hD hS hA [1, 2, 3, 4, 5, 6, 7, 8] rfl
    refine fz_cVi (As := [.int x1]) (rest := []) S0 (m_p_write l (va_A (fz_WM k q2 f2 pa2 v2) H.size) D k q2 f2 pa2 v2 x1 n_f_1_0 n_f_1_7 n_f_1_8 n_f_1_10 n_f_1_11) (fz_cwV (C := RX10) 1 hts9 fm_999 fm_1000 fm_1001 fm_1002 fm_469 rfl rfl ⟨by decide, by decide, by decide +kernel⟩ ⟨Nat.le_of_ble_eq_true rfl, Nat.le_of_ble_eq_true rfl⟩) (va_recv hK hPc (ci := 14) (q0 := 0) rfl rfl) hFc (fun a9 h9 => Or.inr h9) hG hS hPc hK hDc rfl hl.1 rfl (Nat.le_of_ble_eq_true rfl) dL_law_2264 ⟨Nat.le_of_ble_eq_true rfl, Nat.le_of_ble_eq_true rfl⟩ (fun r_2 u_2 H locs hw hz1 hk1 hP1 hS => ?_)
    obtain ⟨hP, hD⟩ := va_join (wr := ([(o2, .inl (k 6, 1, .inr (.inr (.inr (.inl g2)))))] ++ ([(o, .inl (k 5, 1, .inr (.inl u_1)))]))) (w1 := (fz_MO q2 u_2)) hP hD [1, 2, 3, 4, 5, 6, 7, 8] [0, 9] rfl rfl (by decide) (by decide) hk1 hFc hP1 (fz_Dsame (hDc.sub (ws' := fz_MO q2 v2) [0] (by decide) rfl) rfl)
    have hP : va_P D vwCl ([(o2, .inl (k 6, 1, .inr (.inr (.inr (.inl g2)))))] ++ ([(o, .inl (k 5, 1, .inr (.inl u_1)))] ++ (fz_MO q2 u_2))) H := hP
    have hD : va_D (fun q : Nat => s.heap.size ≤ q) ([(o2, .inl (k 6, 1, .inr (.inr (.inr (.inl g2)))))] ++ ([(o, .inl (k 5, 1, .inr (.inl u_1)))] ++ (fz_MO q2 u_2))) := hD
    rcases hw with ⟨rfl, ht_2, hc_2⟩ | ⟨rfl, ht_2, hc_2⟩
    · skip
      refine lv_istore (lv' := [(7, .int 0), (6, .int 1), (5, .int 0), (4, .ref o2), (3, .ref o), (2, .ref (q2 0)), (1, .ref (q 31)), (0, .ref b)]) hx hb dL_law_2267 hl (by decide) rfl (fun ls hl => ?_)
      refine lv_aload_n hx hb dL_law_2269 rfl (lv_at hl 5 rfl) ?_
      have hPc := hP.sub (ws' := (fz_MO q2 u_2)) [2] rfl
      have hDc : va_D (va_A (fz_MO q2 u_2) H.size) (fz_MO q2 u_2) := (hD.sub (ws' := (fz_MO q2 u_2)) [2] (by decide) rfl).self
      have hFc := va_free (wc := (fz_MO q2 u_2)) hD hS hA [2] rfl
      refine fz_cVi (As := []) (rest := []) S0 (m_thrown l (va_A (fz_MO q2 u_2) H.size) D k q2 u_2) (fz_cwV (C := RX10) 0 hts9 fm_823 fm_824 fm_825 fm_826 fm_469 rfl rfl ⟨by decide, by decide, by decide +kernel⟩ ⟨Nat.le_of_ble_eq_true rfl, Nat.le_of_ble_eq_true rfl⟩) (va_recv hK hPc (ci := 14) (q0 := 0) rfl rfl) hFc (fun a9 h9 => Or.inr h9) hG hS hPc hK hDc rfl hl.1 rfl (Nat.le_of_ble_eq_true rfl) dL_law_2270 ⟨Nat.le_of_ble_eq_true rfl, Nat.le_of_ble_eq_true rfl⟩ (fun r_3 u_3 H locs hw hz1 hk1 hP1 hS => ?_)
      obtain ⟨hP, hD⟩ := va_join (wr := ([(o2, .inl (k 6, 1, .inr (.inr (.inr (.inl g2)))))] ++ ([(o, .inl (k 5, 1, .inr (.inl u_1)))]))) (w1 := (fz_MO q2 u_2)) hP hD [2] [0, 1] rfl rfl (by decide) (by decide) hk1 hFc hP1 hDc
      have hP : va_P D vwCl ([(o2, .inl (k 6, 1, .inr (.inr (.inr (.inl g2)))))] ++ ([(o, .inl (k 5, 1, .inr (.inl u_1)))] ++ (fz_MO q2 u_2))) H := hP
      have hD : va_D (fun q : Nat => s.heap.size ≤ q) ([(o2, .inl (k 6, 1, .inr (.inr (.inr (.inl g2)))))] ++ ([(o, .inl (k 5, 1, .inr (.inl u_1)))] ++ (fz_MO q2 u_2))) := hD
      obtain rfl : r_3 = u_2 0 := hw
      refine fz_I (y := 1) ht_2 ?_
      refine lv_iload hx hb dL_law_2273 (lv_at hl 1 rfl) ?_
      refine lv_icmp_eq (tgt := 2280) hx hb dL_law_2275 (by decide) (fun c9 => ?_) (fun c9 => absurd (by decide) c9)
      refine lv_iload hx hb dL_law_2280 (lv_at hl 1 rfl) ?_
      refine lv_if_ne (tgt := 2297) hx hb dL_law_2282 (by decide) (fun c9 => ?_) (fun c9 => absurd c9 (by decide))
      refine lv_goto (tgt := 2457) hx hb dL_law_2297 (by decide) ?_
      exact lw_tail hL C0 (Nat.le_of_ble_eq_true rfl) (Nat.le_of_ble_eq_true rfl) hS ls (lv_sub hl [2, 7] rfl)
    · skip
      exact (fq_136 x1 hc_1 hc_2).elim

set_option maxHeartbeats 8000000 in
set_option maxRecDepth 100000 in
theorem lw_case32 {p : Program} {l : Launch} {e : Env} {s : State} {m : MethodId} {below : List Frame} {meth : Method} {c : Code} {D : va_G} {b L : Nat} {xs : Nat → Int32} (hl0 : l.stackTraces = false) (hL : L = 6) (C0 : lw_At p s m meth c b L xs) (hG : fz_GS (fun q : Nat => s.heap.size ≤ q) s) (k : Nat → ClassId) (hK : va_K D vwCl (fz_tys k) s) (q q2 : Nat → Nat) (f f2 : Nat → Nat → Int32) (pa pa2 : Nat → Option Nat) (v v2 : Nat → Int32) (o o2 : Nat) (g : Nat → Int64) (g2 : Nat → UInt64) (hF : fz_LF q2 f pa v f2 pa2 v2) (H : Heap) (locs : List Loc) (hP : va_P D vwCl (fz_WC k q f pa v ++ ([(o, .inl (k 5, 1, .inr (.inl g)))] ++ ([(o2, .inl (k 6, 1, .inr (.inr (.inr (.inl g2)))))] ++ (fz_WM k q2 f2 pa2 v2)))) H) (hD : va_D (fun q : Nat => s.heap.size ≤ q) (fz_WC k q f pa v ++ ([(o, .inl (k 5, 1, .inr (.inl g)))] ++ ([(o2, .inl (k 6, 1, .inr (.inr (.inr (.inl g2)))))] ++ (fz_WM k q2 f2 pa2 v2))))) (hS : va_S (fun q : Nat => s.heap.size ≤ q) s.heap H locs) (ls : Array Slot) (hl : lv_has ls 9 [(5, .int 0), (4, .ref o2), (3, .ref o), (2, .ref (q2 0)), (1, .ref (q 31)), (0, .ref b)]) :
    W p l e room_1 s m #[Value.ref b] below meth c H locs 2000 400000 (lw_Z below #[Value.ref b] s) (F0 m 2300 ls []) := by
  obtain ⟨g_v_0, g_v_1, g_v_2, g_v_3, g_v_4, g_v_5, g_v_6, g_v_7, g_v_8, g_v_9, g_v_10, g_v_11, g_v_12, g_v_13, g_v_14, g_v_15, g_v_17, g_f_2_0, g_f_4_0, g_f_5_0, g_f_6_0, g_f_7_0, g_f_8_0, g_f_9_0, g_f_11_0, g_f_18_0, g_f_19_0, g_pa_0, g_pa_1, g_pa_8, n_v_0, n_v_5, n_v_6, n_v_7, n_v_8, n_v_9, n_v_10, n_v_11, n_v_12, n_v_13, n_v_15, n_v_16, n_v_17, n_v_18, n_v_19, n_v_21, n_f_1_0, n_f_1_1, n_f_1_2, n_f_1_3, n_f_1_4, n_f_1_5, n_f_1_6, n_f_1_7, n_f_1_8, n_f_1_9, n_f_1_10, n_f_1_11, n_f_1_12, n_f_1_13, n_f_1_15, n_f_1_16, n_f_1_17, n_pb_0⟩ := hF
  obtain ⟨hx, hb, hr, hml, hown, hts, hX, hbl, hlocks, hgv⟩ := id C0
  subst hL
  have hL : (6 : Nat) = 6 := rfl
  have hA : ∀ q : Nat, s.heap.size ≤ q → (fun q : Nat => s.heap.size ≤ q) q := fun _ h => h
  have hbA : ¬ (fun q : Nat => s.heap.size ≤ q) b := Nat.not_le.mpr hbl
  have hts9 := fz_hts9 hts
  have hown : s.vm.findClass RL = some m.cls := hown
  have S0 : CallFix p m c code 9 s #[Value.ref b] (Cond.initialized RL :: fz_WA) RL := ⟨hx, hb, hml, hown, hts9⟩
  obtain ⟨x1, ex1⟩ : ∃ z, z = xs 1 := ⟨_, rfl⟩
  obtain ⟨x2, ex2⟩ : ∃ z, z = xs 2 := ⟨_, rfl⟩
  obtain ⟨x3, ex3⟩ : ∃ z, z = xs 3 := ⟨_, rfl⟩
  obtain ⟨x4, ex4⟩ : ∃ z, z = xs 4 := ⟨_, rfl⟩
  obtain ⟨x5, ex5⟩ : ∃ z, z = xs 5 := ⟨_, rfl⟩
  refine lv_aload_n hx hb dL_law_2300 rfl (lv_at hl 4 rfl) ?_
  refine lv_aload_n hx hb dL_law_2301 rfl (lv_at hl 5 rfl) ?_
  refine lv_iload hx hb dL_law_2302 (lv_at hl 0 rfl) ?_
  refine lv_iconst (v := 1) hx hb dL_law_2304 (by decide) ?_
  refine lv_iadd hx hb dL_law_2305 ?_
  refine fz_I (y := 1) (by decide) ?_
  refine va_sld hx hb hX hbl hbA hS (fz_vin (by decide)) dL_law_2306 ?_
  refine fz_I (y := x1) ex1.symm ?_
  refine lv_aload_n hx hb dL_law_2307 rfl (lv_at hl 2 rfl) ?_
  have hPc := hP.sub (ws' := (fz_WC k q f pa v ++ ([(o, .inl (k 5, 1, .inr (.inl g)))]))) [0, 1, 2, 3, 4, 5, 6, 7, 8, 9, 10, 11, 12, 13, 14, 15, 16, 17, 18, 19, 20, 21, 22, 23, 24, 25, 26, 27, 28, 29, 30, 31, 32, 33, 34, 35, 36, 37, 38] rfl
  have hDc : va_D (va_A (fz_WC k q f pa v ++ ([(o, .inl (k 5, 1, .inr (.inl g)))])) H.size) (fz_WC k q f pa v ++ ([(o, .inl (k 5, 1, .inr (.inl g)))])) := (hD.sub (ws' := (fz_WC k q f pa v ++ ([(o, .inl (k 5, 1, .inr (.inl g)))]))) [0, 1, 2, 3, 4, 5, 6, 7, 8, 9, 10, 11, 12, 13, 14, 15, 16, 17, 18, 19, 20, 21, 22, 23, 24, 25, 26, 27, 28, 29, 30, 31, 32, 33, 34, 35, 36, 37, 38] (by decide) rfl).self
  have hFc := va_free (wc := (fz_WC k q f pa v ++ ([(o, .inl (k 5, 1, .inr (.inl g)))]))) hD hS hA [0, 1, 2, 3, 4, 5, 6, 7, 8, 9, 10, 11, 12, 13, 14, 15, 16, 17, 18, 19, 20, 21, 22, 23, 24, 25, 26, 27, 28, 29, 30, 31, 32, 33, 34, 35, 36, 37, 38] rfl
  refine fz_hSi (As := [.ref (q 31), .int x1, .ref o]) (rest := []) S0 (h_text l hl0 (va_A (fz_WC k q f pa v ++ ([(o, .inl (k 5, 1, .inr (.inl g)))])) H.size) D k q f pa v o g x1 g_v_17) (vx_cwSW 3 hts9 (fz_gSW fm_801 fm_1003 fm_1004 fm_816) rfl rfl rfl ⟨by decide, by decide, by decide +kernel⟩ ⟨Nat.le_of_ble_eq_true rfl, Nat.le_of_ble_eq_true rfl⟩) hFc (fun a9 h9 => Or.inr h9) hG hS hPc hK hDc rfl hl.1 rfl (Nat.le_of_ble_eq_true rfl) dL_law_2308 ⟨Nat.le_of_ble_eq_true rfl, Nat.le_of_ble_eq_true rfl⟩ (fun r_1 u_1 H locs hw hz1 hk1 hP1 hS => ?_)
  obtain ⟨hP, hD⟩ := va_join (wr := ([(o2, .inl (k 6, 1, .inr (.inr (.inr (.inl g2)))))] ++ (fz_WM k q2 f2 pa2 v2))) (w1 := ([(o, .inl (k 5, 1, .inr (.inl u_1)))])) hP hD [0, 1, 2, 3, 4, 5, 6, 7, 8, 9, 10, 11, 12, 13, 14, 15, 16, 17, 18, 19, 20, 21, 22, 23, 24, 25, 26, 27, 28, 29, 30, 31, 32, 33, 34, 35, 36, 37, 38] [39, 40, 41, 42, 43, 44, 45, 46, 47] rfl rfl (by decide) (by decide) hk1 hFc hP1 (fz_Dsame (hDc.sub (ws' := [(o, .inl (k 5, 1, .inr (.inl g)))]) [38] (by decide) rfl) rfl)
  have hP : va_P D vwCl ([(o2, .inl (k 6, 1, .inr (.inr (.inr (.inl g2)))))] ++ (fz_WM k q2 f2 pa2 v2 ++ ([(o, .inl (k 5, 1, .inr (.inl u_1)))]))) H := hP
  have hD : va_D (fun q : Nat => s.heap.size ≤ q) ([(o2, .inl (k 6, 1, .inr (.inr (.inr (.inl g2)))))] ++ (fz_WM k q2 f2 pa2 v2 ++ ([(o, .inl (k 5, 1, .inr (.inl u_1)))]))) := hD
  rcases hw with ⟨rfl, hc_1⟩
  · skip
    refine lv_istore (lv' := [(6, .int 1), (5, .int 0), (4, .ref o2), (3, .ref o), (2, .ref (q2 0)), (1, .ref (q 31)), (0, .ref b)]) hx hb dL_law_2311 hl (by decide) rfl (fun ls hl => ?_)
    refine lv_aload_n hx hb dL_law_2313 rfl (lv_at hl 4 rfl) ?_
    refine lv_aload_n hx hb dL_law_2314 rfl (lv_at hl 6 rfl) ?_
    refine lv_iload hx hb dL_law_2315 (lv_at hl 1 rfl) ?_
    refine lv_iconst (v := 1) hx hb dL_law_2317 (by decide) ?_
    refine lv_iadd hx hb dL_law_2318 ?_
    refine fz_I (y := 1) (by decide) ?_
    refine va_sld hx hb hX hbl hbA hS (fz_vin (by decide)) dL_law_2319 ?_
    refine fz_I (y := x1) ex1.symm ?_
    have hPc := hP.sub (ws' := (fz_WM k q2 f2 pa2 v2)) [1, 2, 3, 4, 5, 6, 7, 8] rfl
    have hDc : va_D (va_A (fz_WM k q2 f2 pa2 v2) H.size) (fz_WM k q2 f2 pa2 v2) := (hD.sub (ws' := (fz_WM k q2 f2 pa2 v2)) [1, 2, 3, 4, 5, 6, 7, 8] (by decide) rfl).self
    have hFc := va_free (wc := (fz_WM k q2 f2 pa2 v2)) hD hS hA [1, 2, 3, 4, 5, 6, 7, 8] rfl
    refine fz_cVi (As := [.int x1]) (rest := []) S0 (m_p_text l (va_A (fz_WM k q2 f2 pa2 v2) H.size) D k q2 f2 pa2 v2 x1 n_v_21) (fz_cwV (C := RX10) 1 hts9 fm_1005 fm_1006 fm_1007 fm_1008 fm_469 rfl rfl ⟨by decide, by decide, by decide +kernel⟩ ⟨Nat.le_of_ble_eq_true rfl, Nat.le_of_ble_eq_true rfl⟩) (va_recv hK hPc (ci := 14) (q0 := 0) rfl rfl) hFc (fun a9 h9 => Or.inr h9) hG hS hPc hK hDc rfl hl.1 rfl (Nat.le_of_ble_eq_true rfl) dL_law_2320 ⟨Nat.le_of_ble_eq_true rfl, Nat.le_of_ble_eq_true rfl⟩ (fun r_2 u_2 H locs hw hz1 hk1 hP1 hS => ?_)
    obtain ⟨hP, hD⟩ := va_join (wr := ([(o2, .inl (k 6, 1, .inr (.inr (.inr (.inl g2)))))] ++ ([(o, .inl (k 5, 1, .inr (.inl u_1)))]))) (w1 := (fz_MO q2 u_2)) hP hD [1, 2, 3, 4, 5, 6, 7, 8] [0, 9] rfl rfl (by decide) (by decide) hk1 hFc hP1 (fz_Dsame (hDc.sub (ws' := fz_MO q2 v2) [0] (by decide) rfl) rfl)
    have hP : va_P D vwCl ([(o2, .inl (k 6, 1, .inr (.inr (.inr (.inl g2)))))] ++ ([(o, .inl (k 5, 1, .inr (.inl u_1)))] ++ (fz_MO q2 u_2))) H := hP
    have hD : va_D (fun q : Nat => s.heap.size ≤ q) ([(o2, .inl (k 6, 1, .inr (.inr (.inr (.inl g2)))))] ++ ([(o, .inl (k 5, 1, .inr (.inl u_1)))] ++ (fz_MO q2 u_2))) := hD
    rcases hw with ⟨rfl, ht_2, hc_2⟩
    · skip
      refine lv_istore (lv' := [(7, .int 97), (6, .int 1), (5, .int 0), (4, .ref o2), (3, .ref o), (2, .ref (q2 0)), (1, .ref (q 31)), (0, .ref b)]) hx hb dL_law_2323 hl (by decide) rfl (fun ls hl => ?_)
      refine lv_aload_n hx hb dL_law_2325 rfl (lv_at hl 5 rfl) ?_
      have hPc := hP.sub (ws' := (fz_MO q2 u_2)) [2] rfl
      have hDc : va_D (va_A (fz_MO q2 u_2) H.size) (fz_MO q2 u_2) := (hD.sub (ws' := (fz_MO q2 u_2)) [2] (by decide) rfl).self
      have hFc := va_free (wc := (fz_MO q2 u_2)) hD hS hA [2] rfl
      refine fz_cVi (As := []) (rest := []) S0 (m_thrown l (va_A (fz_MO q2 u_2) H.size) D k q2 u_2) (fz_cwV (C := RX10) 0 hts9 fm_823 fm_824 fm_825 fm_826 fm_469 rfl rfl ⟨by decide, by decide, by decide +kernel⟩ ⟨Nat.le_of_ble_eq_true rfl, Nat.le_of_ble_eq_true rfl⟩) (va_recv hK hPc (ci := 14) (q0 := 0) rfl rfl) hFc (fun a9 h9 => Or.inr h9) hG hS hPc hK hDc rfl hl.1 rfl (Nat.le_of_ble_eq_true rfl) dL_law_2326 ⟨Nat.le_of_ble_eq_true rfl, Nat.le_of_ble_eq_true rfl⟩ (fun r_3 u_3 H locs hw hz1 hk1 hP1 hS => ?_)
      obtain ⟨hP, hD⟩ := va_join (wr := ([(o2, .inl (k 6, 1, .inr (.inr (.inr (.inl g2)))))] ++ ([(o, .inl (k 5, 1, .inr (.inl u_1)))]))) (w1 := (fz_MO q2 u_2)) hP hD [2] [0, 1] rfl rfl (by decide) (by decide) hk1 hFc hP1 hDc
      have hP : va_P D vwCl ([(o2, .inl (k 6, 1, .inr (.inr (.inr (.inl g2)))))] ++ ([(o, .inl (k 5, 1, .inr (.inl u_1)))] ++ (fz_MO q2 u_2))) H := hP
      have hD : va_D (fun q : Nat => s.heap.size ≤ q) ([(o2, .inl (k 6, 1, .inr (.inr (.inr (.inl g2)))))] ++ ([(o, .inl (k 5, 1, .inr (.inl u_1)))] ++ (fz_MO q2 u_2))) := hD
      obtain rfl : r_3 = u_2 0 := hw
      refine fz_I (y := 1) ht_2 ?_
      refine lv_iload hx hb dL_law_2329 (lv_at hl 1 rfl) ?_
      refine lv_icmp_eq (tgt := 2336) hx hb dL_law_2331 (by decide) (fun c9 => ?_) (fun c9 => absurd (by decide) c9)
      refine lv_iload hx hb dL_law_2336 (lv_at hl 1 rfl) ?_
      refine lv_if_ne (tgt := 2353) hx hb dL_law_2338 (by decide) (fun c9 => ?_) (fun c9 => absurd c9 (by decide))
      refine lv_goto (tgt := 2457) hx hb dL_law_2353 (by decide) ?_
      exact lw_tail hL C0 (Nat.le_of_ble_eq_true rfl) (Nat.le_of_ble_eq_true rfl) hS ls (lv_sub hl [2, 7] rfl)

set_option maxHeartbeats 8000000 in
set_option maxRecDepth 100000 in
theorem lw_case33 {p : Program} {l : Launch} {e : Env} {s : State} {m : MethodId} {below : List Frame} {meth : Method} {c : Code} {D : va_G} {b L : Nat} {xs : Nat → Int32} (hl0 : l.stackTraces = false) (hL : L = 6) (C0 : lw_At p s m meth c b L xs) (hG : fz_GS (fun q : Nat => s.heap.size ≤ q) s) (k : Nat → ClassId) (hK : va_K D vwCl (fz_tys k) s) (q q2 : Nat → Nat) (f f2 : Nat → Nat → Int32) (pa pa2 : Nat → Option Nat) (v v2 : Nat → Int32) (o o2 : Nat) (g : Nat → Int64) (g2 : Nat → UInt64) (hF : fz_LF q2 f pa v f2 pa2 v2) (H : Heap) (locs : List Loc) (hP : va_P D vwCl (fz_WC k q f pa v ++ ([(o, .inl (k 5, 1, .inr (.inl g)))] ++ ([(o2, .inl (k 6, 1, .inr (.inr (.inr (.inl g2)))))] ++ (fz_WM k q2 f2 pa2 v2)))) H) (hD : va_D (fun q : Nat => s.heap.size ≤ q) (fz_WC k q f pa v ++ ([(o, .inl (k 5, 1, .inr (.inl g)))] ++ ([(o2, .inl (k 6, 1, .inr (.inr (.inr (.inl g2)))))] ++ (fz_WM k q2 f2 pa2 v2))))) (hS : va_S (fun q : Nat => s.heap.size ≤ q) s.heap H locs) (ls : Array Slot) (hl : lv_has ls 9 [(5, .int 0), (4, .ref o2), (3, .ref o), (2, .ref (q2 0)), (1, .ref (q 31)), (0, .ref b)]) :
    W p l e room_1 s m #[Value.ref b] below meth c H locs 2000 400000 (lw_Z below #[Value.ref b] s) (F0 m 2356 ls []) := by
  obtain ⟨g_v_0, g_v_1, g_v_2, g_v_3, g_v_4, g_v_5, g_v_6, g_v_7, g_v_8, g_v_9, g_v_10, g_v_11, g_v_12, g_v_13, g_v_14, g_v_15, g_v_17, g_f_2_0, g_f_4_0, g_f_5_0, g_f_6_0, g_f_7_0, g_f_8_0, g_f_9_0, g_f_11_0, g_f_18_0, g_f_19_0, g_pa_0, g_pa_1, g_pa_8, n_v_0, n_v_5, n_v_6, n_v_7, n_v_8, n_v_9, n_v_10, n_v_11, n_v_12, n_v_13, n_v_15, n_v_16, n_v_17, n_v_18, n_v_19, n_v_21, n_f_1_0, n_f_1_1, n_f_1_2, n_f_1_3, n_f_1_4, n_f_1_5, n_f_1_6, n_f_1_7, n_f_1_8, n_f_1_9, n_f_1_10, n_f_1_11, n_f_1_12, n_f_1_13, n_f_1_15, n_f_1_16, n_f_1_17, n_pb_0⟩ := hF
  obtain ⟨hx, hb, hr, hml, hown, hts, hX, hbl, hlocks, hgv⟩ := id C0
  subst hL
  have hL : (6 : Nat) = 6 := rfl
  have hA : ∀ q : Nat, s.heap.size ≤ q → (fun q : Nat => s.heap.size ≤ q) q := fun _ h => h
  have hbA : ¬ (fun q : Nat => s.heap.size ≤ q) b := Nat.not_le.mpr hbl
  have hts9 := fz_hts9 hts
  have hown : s.vm.findClass RL = some m.cls := hown
  have S0 : CallFix p m c code 9 s #[Value.ref b] (Cond.initialized RL :: fz_WA) RL := ⟨hx, hb, hml, hown, hts9⟩
  obtain ⟨x1, ex1⟩ : ∃ z, z = xs 1 := ⟨_, rfl⟩
  obtain ⟨x2, ex2⟩ : ∃ z, z = xs 2 := ⟨_, rfl⟩
  obtain ⟨x3, ex3⟩ : ∃ z, z = xs 3 := ⟨_, rfl⟩
  obtain ⟨x4, ex4⟩ : ∃ z, z = xs 4 := ⟨_, rfl⟩
  obtain ⟨x5, ex5⟩ : ∃ z, z = xs 5 := ⟨_, rfl⟩
  refine lv_aload_n hx hb dL_law_2356 rfl (lv_at hl 4 rfl) ?_
  refine lv_aload_n hx hb dL_law_2357 rfl (lv_at hl 2 rfl) ?_
  have hPc := hP.sub (ws' := (fz_WC k q f pa v ++ ([(o, .inl (k 5, 1, .inr (.inl g)))]))) [0, 1, 2, 3, 4, 5, 6, 7, 8, 9, 10, 11, 12, 13, 14, 15, 16, 17, 18, 19, 20, 21, 22, 23, 24, 25, 26, 27, 28, 29, 30, 31, 32, 33, 34, 35, 36, 37, 38] rfl
  have hDc : va_D (va_A (fz_WC k q f pa v ++ ([(o, .inl (k 5, 1, .inr (.inl g)))])) H.size) (fz_WC k q f pa v ++ ([(o, .inl (k 5, 1, .inr (.inl g)))])) := (hD.sub (ws' := (fz_WC k q f pa v ++ ([(o, .inl (k 5, 1, .inr (.inl g)))]))) [0, 1, 2, 3, 4, 5, 6, 7, 8, 9, 10, 11, 12, 13, 14, 15, 16, 17, 18, 19, 20, 21, 22, 23, 24, 25, 26, 27, 28, 29, 30, 31, 32, 33, 34, 35, 36, 37, 38] (by decide) rfl).self
  have hFc := va_free (wc := (fz_WC k q f pa v ++ ([(o, .inl (k 5, 1, .inr (.inl g)))]))) hD hS hA [0, 1, 2, 3, 4, 5, 6, 7, 8, 9, 10, 11, 12, 13, 14, 15, 16, 17, 18, 19, 20, 21, 22, 23, 24, 25, 26, 27, 28, 29, 30, 31, 32, 33, 34, 35, 36, 37, 38] rfl
  refine fz_hSi (As := [.ref (q 31), .ref o]) (rest := []) S0 (h_undo l hl0 (va_A (fz_WC k q f pa v ++ ([(o, .inl (k 5, 1, .inr (.inl g)))])) H.size) D k q f pa v o g  g_v_9 g_pa_0 g_v_10) (vx_cwSW 2 hts9 (fz_gSW fm_806 fm_1009 fm_1010 fm_816) rfl rfl rfl ⟨by decide, by decide, by decide +kernel⟩ ⟨Nat.le_of_ble_eq_true rfl, Nat.le_of_ble_eq_true rfl⟩) hFc (fun a9 h9 => Or.inr h9) hG hS hPc hK hDc rfl hl.1 rfl (Nat.le_of_ble_eq_true rfl) dL_law_2358 ⟨Nat.le_of_ble_eq_true rfl, Nat.le_of_ble_eq_true rfl⟩ (fun r_1 u_1 H locs hw hz1 hk1 hP1 hS => ?_)
  obtain ⟨hP, hD⟩ := va_join (wr := ([(o2, .inl (k 6, 1, .inr (.inr (.inr (.inl g2)))))] ++ (fz_WM k q2 f2 pa2 v2))) (w1 := ([(o, .inl (k 5, 1, .inr (.inl u_1)))])) hP hD [0, 1, 2, 3, 4, 5, 6, 7, 8, 9, 10, 11, 12, 13, 14, 15, 16, 17, 18, 19, 20, 21, 22, 23, 24, 25, 26, 27, 28, 29, 30, 31, 32, 33, 34, 35, 36, 37, 38] [39, 40, 41, 42, 43, 44, 45, 46, 47] rfl rfl (by decide) (by decide) hk1 hFc hP1 (fz_Dsame (hDc.sub (ws' := [(o, .inl (k 5, 1, .inr (.inl g)))]) [38] (by decide) rfl) rfl)
  have hP : va_P D vwCl ([(o2, .inl (k 6, 1, .inr (.inr (.inr (.inl g2)))))] ++ (fz_WM k q2 f2 pa2 v2 ++ ([(o, .inl (k 5, 1, .inr (.inl u_1)))]))) H := hP
  have hD : va_D (fun q : Nat => s.heap.size ≤ q) ([(o2, .inl (k 6, 1, .inr (.inr (.inr (.inl g2)))))] ++ (fz_WM k q2 f2 pa2 v2 ++ ([(o, .inl (k 5, 1, .inr (.inl u_1)))]))) := hD
  rcases hw with ⟨rfl, hc_1⟩
  · skip
    refine lv_istore (lv' := [(6, .int 1), (5, .int 0), (4, .ref o2), (3, .ref o), (2, .ref (q2 0)), (1, .ref (q 31)), (0, .ref b)]) hx hb dL_law_2361 hl (by decide) rfl (fun ls hl => ?_)
    refine lv_aload_n hx hb dL_law_2363 rfl (lv_at hl 4 rfl) ?_
    have hPc := hP.sub (ws' := (fz_WM k q2 f2 pa2 v2)) [1, 2, 3, 4, 5, 6, 7, 8] rfl
    have hDc : va_D (va_A (fz_WM k q2 f2 pa2 v2) H.size) (fz_WM k q2 f2 pa2 v2) := (hD.sub (ws' := (fz_WM k q2 f2 pa2 v2)) [1, 2, 3, 4, 5, 6, 7, 8] (by decide) rfl).self
    have hFc := va_free (wc := (fz_WM k q2 f2 pa2 v2)) hD hS hA [1, 2, 3, 4, 5, 6, 7, 8] rfl
    refine fz_cVi (As := []) (rest := []) S0 (m_p_undo l (va_A (fz_WM k q2 f2 pa2 v2) H.size) D k q2 f2 pa2 v2  n_v_5) (fz_cwV (C := RX10) 0 hts9 fm_1011 fm_1012 fm_1013 fm_1014 fm_469 rfl rfl ⟨by decide, by decide, by decide +kernel⟩ ⟨Nat.le_of_ble_eq_true rfl, Nat.le_of_ble_eq_true rfl⟩) (va_recv hK hPc (ci := 14) (q0 := 0) rfl rfl) hFc (fun a9 h9 => Or.inr h9) hG hS hPc hK hDc rfl hl.1 rfl (Nat.le_of_ble_eq_true rfl) dL_law_2364 ⟨Nat.le_of_ble_eq_true rfl, Nat.le_of_ble_eq_true rfl⟩ (fun r_2 u_2 H locs hw hz1 hk1 hP1 hS => ?_)
    obtain ⟨hP, hD⟩ := va_join (wr := ([(o2, .inl (k 6, 1, .inr (.inr (.inr (.inl g2)))))] ++ ([(o, .inl (k 5, 1, .inr (.inl u_1)))]))) (w1 := (fz_MO q2 u_2)) hP hD [1, 2, 3, 4, 5, 6, 7, 8] [0, 9] rfl rfl (by decide) (by decide) hk1 hFc hP1 (fz_Dsame (hDc.sub (ws' := fz_MO q2 v2) [0] (by decide) rfl) rfl)
    have hP : va_P D vwCl ([(o2, .inl (k 6, 1, .inr (.inr (.inr (.inl g2)))))] ++ ([(o, .inl (k 5, 1, .inr (.inl u_1)))] ++ (fz_MO q2 u_2))) H := hP
    have hD : va_D (fun q : Nat => s.heap.size ≤ q) ([(o2, .inl (k 6, 1, .inr (.inr (.inr (.inl g2)))))] ++ ([(o, .inl (k 5, 1, .inr (.inl u_1)))] ++ (fz_MO q2 u_2))) := hD
    rcases hw with ⟨rfl, ht_2, hc_2⟩
    · skip
      refine lv_istore (lv' := [(7, .int 0), (6, .int 1), (5, .int 0), (4, .ref o2), (3, .ref o), (2, .ref (q2 0)), (1, .ref (q 31)), (0, .ref b)]) hx hb dL_law_2367 hl (by decide) rfl (fun ls hl => ?_)
      refine lv_aload_n hx hb dL_law_2369 rfl (lv_at hl 5 rfl) ?_
      have hPc := hP.sub (ws' := (fz_MO q2 u_2)) [2] rfl
      have hDc : va_D (va_A (fz_MO q2 u_2) H.size) (fz_MO q2 u_2) := (hD.sub (ws' := (fz_MO q2 u_2)) [2] (by decide) rfl).self
      have hFc := va_free (wc := (fz_MO q2 u_2)) hD hS hA [2] rfl
      refine fz_cVi (As := []) (rest := []) S0 (m_thrown l (va_A (fz_MO q2 u_2) H.size) D k q2 u_2) (fz_cwV (C := RX10) 0 hts9 fm_823 fm_824 fm_825 fm_826 fm_469 rfl rfl ⟨by decide, by decide, by decide +kernel⟩ ⟨Nat.le_of_ble_eq_true rfl, Nat.le_of_ble_eq_true rfl⟩) (va_recv hK hPc (ci := 14) (q0 := 0) rfl rfl) hFc (fun a9 h9 => Or.inr h9) hG hS hPc hK hDc rfl hl.1 rfl (Nat.le_of_ble_eq_true rfl) dL_law_2370 ⟨Nat.le_of_ble_eq_true rfl, Nat.le_of_ble_eq_true rfl⟩ (fun r_3 u_3 H locs hw hz1 hk1 hP1 hS => ?_)
      obtain ⟨hP, hD⟩ := va_join (wr := ([(o2, .inl (k 6, 1, .inr (.inr (.inr (.inl g2)))))] ++ ([(o, .inl (k 5, 1, .inr (.inl u_1)))]))) (w1 := (fz_MO q2 u_2)) hP hD [2] [0, 1] rfl rfl (by decide) (by decide) hk1 hFc hP1 hDc
      have hP : va_P D vwCl ([(o2, .inl (k 6, 1, .inr (.inr (.inr (.inl g2)))))] ++ ([(o, .inl (k 5, 1, .inr (.inl u_1)))] ++ (fz_MO q2 u_2))) H := hP
      have hD : va_D (fun q : Nat => s.heap.size ≤ q) ([(o2, .inl (k 6, 1, .inr (.inr (.inr (.inl g2)))))] ++ ([(o, .inl (k 5, 1, .inr (.inl u_1)))] ++ (fz_MO q2 u_2))) := hD
      obtain rfl : r_3 = u_2 0 := hw
      refine fz_I (y := 1) ht_2 ?_
      refine lv_iload hx hb dL_law_2373 (lv_at hl 1 rfl) ?_
      refine lv_icmp_eq (tgt := 2380) hx hb dL_law_2375 (by decide) (fun c9 => ?_) (fun c9 => absurd (by decide) c9)
      refine lv_iload hx hb dL_law_2380 (lv_at hl 1 rfl) ?_
      refine lv_if_ne (tgt := 2397) hx hb dL_law_2382 (by decide) (fun c9 => ?_) (fun c9 => absurd c9 (by decide))
      refine lv_goto (tgt := 2457) hx hb dL_law_2397 (by decide) ?_
      exact lw_tail hL C0 (Nat.le_of_ble_eq_true rfl) (Nat.le_of_ble_eq_true rfl) hS ls (lv_sub hl [2, 7] rfl)

set_option maxHeartbeats 8000000 in
set_option maxRecDepth 100000 in
theorem lw_case34 {p : Program} {l : Launch} {e : Env} {s : State} {m : MethodId} {below : List Frame} {meth : Method} {c : Code} {D : va_G} {b L : Nat} {xs : Nat → Int32} (hl0 : l.stackTraces = false) (hL : L = 6) (C0 : lw_At p s m meth c b L xs) (hG : fz_GS (fun q : Nat => s.heap.size ≤ q) s) (k : Nat → ClassId) (hK : va_K D vwCl (fz_tys k) s) (q q2 : Nat → Nat) (f f2 : Nat → Nat → Int32) (pa pa2 : Nat → Option Nat) (v v2 : Nat → Int32) (o o2 : Nat) (g : Nat → Int64) (g2 : Nat → UInt64) (hF : fz_LF q2 f pa v f2 pa2 v2) (H : Heap) (locs : List Loc) (hP : va_P D vwCl (fz_WC k q f pa v ++ ([(o, .inl (k 5, 1, .inr (.inl g)))] ++ ([(o2, .inl (k 6, 1, .inr (.inr (.inr (.inl g2)))))] ++ (fz_WM k q2 f2 pa2 v2)))) H) (hD : va_D (fun q : Nat => s.heap.size ≤ q) (fz_WC k q f pa v ++ ([(o, .inl (k 5, 1, .inr (.inl g)))] ++ ([(o2, .inl (k 6, 1, .inr (.inr (.inr (.inl g2)))))] ++ (fz_WM k q2 f2 pa2 v2))))) (hS : va_S (fun q : Nat => s.heap.size ≤ q) s.heap H locs) (ls : Array Slot) (hl : lv_has ls 9 [(5, .int 0), (4, .ref o2), (3, .ref o), (2, .ref (q2 0)), (1, .ref (q 31)), (0, .ref b)]) :
    W p l e room_1 s m #[Value.ref b] below meth c H locs 2000 400000 (lw_Z below #[Value.ref b] s) (F0 m 2400 ls []) := by
  obtain ⟨g_v_0, g_v_1, g_v_2, g_v_3, g_v_4, g_v_5, g_v_6, g_v_7, g_v_8, g_v_9, g_v_10, g_v_11, g_v_12, g_v_13, g_v_14, g_v_15, g_v_17, g_f_2_0, g_f_4_0, g_f_5_0, g_f_6_0, g_f_7_0, g_f_8_0, g_f_9_0, g_f_11_0, g_f_18_0, g_f_19_0, g_pa_0, g_pa_1, g_pa_8, n_v_0, n_v_5, n_v_6, n_v_7, n_v_8, n_v_9, n_v_10, n_v_11, n_v_12, n_v_13, n_v_15, n_v_16, n_v_17, n_v_18, n_v_19, n_v_21, n_f_1_0, n_f_1_1, n_f_1_2, n_f_1_3, n_f_1_4, n_f_1_5, n_f_1_6, n_f_1_7, n_f_1_8, n_f_1_9, n_f_1_10, n_f_1_11, n_f_1_12, n_f_1_13, n_f_1_15, n_f_1_16, n_f_1_17, n_pb_0⟩ := hF
  obtain ⟨hx, hb, hr, hml, hown, hts, hX, hbl, hlocks, hgv⟩ := id C0
  subst hL
  have hL : (6 : Nat) = 6 := rfl
  have hA : ∀ q : Nat, s.heap.size ≤ q → (fun q : Nat => s.heap.size ≤ q) q := fun _ h => h
  have hbA : ¬ (fun q : Nat => s.heap.size ≤ q) b := Nat.not_le.mpr hbl
  have hts9 := fz_hts9 hts
  have hown : s.vm.findClass RL = some m.cls := hown
  have S0 : CallFix p m c code 9 s #[Value.ref b] (Cond.initialized RL :: fz_WA) RL := ⟨hx, hb, hml, hown, hts9⟩
  obtain ⟨x1, ex1⟩ : ∃ z, z = xs 1 := ⟨_, rfl⟩
  obtain ⟨x2, ex2⟩ : ∃ z, z = xs 2 := ⟨_, rfl⟩
  obtain ⟨x3, ex3⟩ : ∃ z, z = xs 3 := ⟨_, rfl⟩
  obtain ⟨x4, ex4⟩ : ∃ z, z = xs 4 := ⟨_, rfl⟩
  obtain ⟨x5, ex5⟩ : ∃ z, z = xs 5 := ⟨_, rfl⟩
  refine lv_aload_n hx hb dL_law_2400 rfl (lv_at hl 4 rfl) ?_
  have hPc := hP.sub (ws' := (fz_WC k q f pa v)) [0, 1, 2, 3, 4, 5, 6, 7, 8, 9, 10, 11, 12, 13, 14, 15, 16, 17, 18, 19, 20, 21, 22, 23, 24, 25, 26, 27, 28, 29, 30, 31, 32, 33, 34, 35, 36, 37] rfl
  have hDc : va_D (va_A (fz_WC k q f pa v) H.size) (fz_WC k q f pa v) := (hD.sub (ws' := (fz_WC k q f pa v)) [0, 1, 2, 3, 4, 5, 6, 7, 8, 9, 10, 11, 12, 13, 14, 15, 16, 17, 18, 19, 20, 21, 22, 23, 24, 25, 26, 27, 28, 29, 30, 31, 32, 33, 34, 35, 36, 37] (by decide) rfl).self
  have hFc := va_free (wc := (fz_WC k q f pa v)) hD hS hA [0, 1, 2, 3, 4, 5, 6, 7, 8, 9, 10, 11, 12, 13, 14, 15, 16, 17, 18, 19, 20, 21, 22, 23, 24, 25, 26, 27, 28, 29, 30, 31, 32, 33, 34, 35, 36, 37] rfl
  refine fz_cVi (As := []) (rest := []) S0 (c_save l (va_A (fz_WC k q f pa v) H.size) D k q f pa v g_pa_8 g_v_1 g_v_2 g_v_3 g_v_4 g_v_5 g_v_6 g_v_7 g_v_8 g_v_0) (fz_cwV (C := RX9) 0 hts9 fm_1015 fm_1016 fm_1017 fm_1018 fm_6 rfl rfl ⟨by decide, by decide, by decide +kernel⟩ ⟨Nat.le_of_ble_eq_true rfl, Nat.le_of_ble_eq_true rfl⟩) (va_recv hK hPc (ci := 13) (q0 := 31) rfl rfl) hFc (fun a9 h9 => Or.inr h9) hG hS hPc hK hDc rfl hl.1 rfl (Nat.le_of_ble_eq_true rfl) dL_law_2401 ⟨Nat.le_of_ble_eq_true rfl, Nat.le_of_ble_eq_true rfl⟩ (fun r_1 u_1 H locs hw hz1 hk1 hP1 hS => ?_)
  obtain ⟨hP, hD⟩ := va_join (wr := ([(o, .inl (k 5, 1, .inr (.inl g)))] ++ ([(o2, .inl (k 6, 1, .inr (.inr (.inr (.inl g2)))))] ++ (fz_WM k q2 f2 pa2 v2)))) (w1 := ([] : va_W)) hP hD [0, 1, 2, 3, 4, 5, 6, 7, 8, 9, 10, 11, 12, 13, 14, 15, 16, 17, 18, 19, 20, 21, 22, 23, 24, 25, 26, 27, 28, 29, 30, 31, 32, 33, 34, 35, 36, 37] [38, 39, 40, 41, 42, 43, 44, 45, 46, 47] rfl rfl (by decide) (by decide) hk1 hFc hP1 fz_nilD
  have hP : va_P D vwCl ([(o, .inl (k 5, 1, .inr (.inl g)))] ++ ([(o2, .inl (k 6, 1, .inr (.inr (.inr (.inl g2)))))] ++ (fz_WM k q2 f2 pa2 v2))) H := hP
  have hD : va_D (fun q : Nat => s.heap.size ≤ q) ([(o, .inl (k 5, 1, .inr (.inl g)))] ++ ([(o2, .inl (k 6, 1, .inr (.inr (.inr (.inl g2)))))] ++ (fz_WM k q2 f2 pa2 v2))) := hD
  obtain rfl : r_1 = 1 := hw
  refine lv_aload_n hx hb dL_law_2404 rfl (lv_at hl 3 rfl) ?_
  have hPc := hP.sub (ws' := (fz_WM k q2 f2 pa2 v2)) [2, 3, 4, 5, 6, 7, 8, 9] rfl
  have hDc : va_D (va_A (fz_WM k q2 f2 pa2 v2) H.size) (fz_WM k q2 f2 pa2 v2) := (hD.sub (ws' := (fz_WM k q2 f2 pa2 v2)) [2, 3, 4, 5, 6, 7, 8, 9] (by decide) rfl).self
  have hFc := va_free (wc := (fz_WM k q2 f2 pa2 v2)) hD hS hA [2, 3, 4, 5, 6, 7, 8, 9] rfl
  refine fz_cVi (As := []) (rest := [.int 1]) S0 (m_p_save l (va_A (fz_WM k q2 f2 pa2 v2) H.size) D k q2 f2 pa2 v2  n_f_1_0 n_f_1_7) (fz_cwV (C := RX10) 0 hts9 fm_1019 fm_1020 fm_1021 fm_1022 fm_469 rfl rfl ⟨by decide, by decide, by decide +kernel⟩ ⟨Nat.le_of_ble_eq_true rfl, Nat.le_of_ble_eq_true rfl⟩) (va_recv hK hPc (ci := 14) (q0 := 0) rfl rfl) hFc (fun a9 h9 => Or.inr h9) hG hS hPc hK hDc rfl hl.1 rfl (Nat.le_of_ble_eq_true rfl) dL_law_2405 ⟨Nat.le_of_ble_eq_true rfl, Nat.le_of_ble_eq_true rfl⟩ (fun r_2 u_2 H locs hw hz1 hk1 hP1 hS => ?_)
  obtain ⟨hP, hD⟩ := va_join (wr := ([(o, .inl (k 5, 1, .inr (.inl g)))] ++ ([(o2, .inl (k 6, 1, .inr (.inr (.inr (.inl g2)))))]))) (w1 := (fz_MO q2 u_2)) hP hD [2, 3, 4, 5, 6, 7, 8, 9] [0, 1] rfl rfl (by decide) (by decide) hk1 hFc hP1 (fz_Dsame (hDc.sub (ws' := fz_MO q2 v2) [0] (by decide) rfl) rfl)
  have hP : va_P D vwCl ([(o, .inl (k 5, 1, .inr (.inl g)))] ++ ([(o2, .inl (k 6, 1, .inr (.inr (.inr (.inl g2)))))] ++ (fz_MO q2 u_2))) H := hP
  have hD : va_D (fun q : Nat => s.heap.size ≤ q) ([(o, .inl (k 5, 1, .inr (.inl g)))] ++ ([(o2, .inl (k 6, 1, .inr (.inr (.inr (.inl g2)))))] ++ (fz_MO q2 u_2))) := hD
  rcases hw with ⟨rfl, ht_2, hc_2⟩
  · skip
    refine lv_icmp_eq (tgt := 2457) hx hb dL_law_2408 (by decide) (fun c9 => ?_) (fun c9 => absurd (by decide) c9)
    exact lw_tail hL C0 (Nat.le_of_ble_eq_true rfl) (Nat.le_of_ble_eq_true rfl) hS ls (lv_sub hl [0, 5] rfl)

set_option maxHeartbeats 8000000 in
set_option maxRecDepth 100000 in
theorem lw_case35 {p : Program} {l : Launch} {e : Env} {s : State} {m : MethodId} {below : List Frame} {meth : Method} {c : Code} {D : va_G} {b L : Nat} {xs : Nat → Int32} (hl0 : l.stackTraces = false) (hL : L = 6) (C0 : lw_At p s m meth c b L xs) (hG : fz_GS (fun q : Nat => s.heap.size ≤ q) s) (k : Nat → ClassId) (hK : va_K D vwCl (fz_tys k) s) (q q2 : Nat → Nat) (f f2 : Nat → Nat → Int32) (pa pa2 : Nat → Option Nat) (v v2 : Nat → Int32) (o o2 : Nat) (g : Nat → Int64) (g2 : Nat → UInt64) (hF : fz_LF q2 f pa v f2 pa2 v2) (H : Heap) (locs : List Loc) (hP : va_P D vwCl (fz_WC k q f pa v ++ ([(o, .inl (k 5, 1, .inr (.inl g)))] ++ ([(o2, .inl (k 6, 1, .inr (.inr (.inr (.inl g2)))))] ++ (fz_WM k q2 f2 pa2 v2)))) H) (hD : va_D (fun q : Nat => s.heap.size ≤ q) (fz_WC k q f pa v ++ ([(o, .inl (k 5, 1, .inr (.inl g)))] ++ ([(o2, .inl (k 6, 1, .inr (.inr (.inr (.inl g2)))))] ++ (fz_WM k q2 f2 pa2 v2))))) (hS : va_S (fun q : Nat => s.heap.size ≤ q) s.heap H locs) (ls : Array Slot) (hl : lv_has ls 9 [(5, .int 0), (4, .ref o2), (3, .ref o), (2, .ref (q2 0)), (1, .ref (q 31)), (0, .ref b)]) :
    W p l e room_1 s m #[Value.ref b] below meth c H locs 2000 400000 (lw_Z below #[Value.ref b] s) (F0 m 2413 ls []) := by
  obtain ⟨g_v_0, g_v_1, g_v_2, g_v_3, g_v_4, g_v_5, g_v_6, g_v_7, g_v_8, g_v_9, g_v_10, g_v_11, g_v_12, g_v_13, g_v_14, g_v_15, g_v_17, g_f_2_0, g_f_4_0, g_f_5_0, g_f_6_0, g_f_7_0, g_f_8_0, g_f_9_0, g_f_11_0, g_f_18_0, g_f_19_0, g_pa_0, g_pa_1, g_pa_8, n_v_0, n_v_5, n_v_6, n_v_7, n_v_8, n_v_9, n_v_10, n_v_11, n_v_12, n_v_13, n_v_15, n_v_16, n_v_17, n_v_18, n_v_19, n_v_21, n_f_1_0, n_f_1_1, n_f_1_2, n_f_1_3, n_f_1_4, n_f_1_5, n_f_1_6, n_f_1_7, n_f_1_8, n_f_1_9, n_f_1_10, n_f_1_11, n_f_1_12, n_f_1_13, n_f_1_15, n_f_1_16, n_f_1_17, n_pb_0⟩ := hF
  obtain ⟨hx, hb, hr, hml, hown, hts, hX, hbl, hlocks, hgv⟩ := id C0
  subst hL
  have hL : (6 : Nat) = 6 := rfl
  have hA : ∀ q : Nat, s.heap.size ≤ q → (fun q : Nat => s.heap.size ≤ q) q := fun _ h => h
  have hbA : ¬ (fun q : Nat => s.heap.size ≤ q) b := Nat.not_le.mpr hbl
  have hts9 := fz_hts9 hts
  have hown : s.vm.findClass RL = some m.cls := hown
  have S0 : CallFix p m c code 9 s #[Value.ref b] (Cond.initialized RL :: fz_WA) RL := ⟨hx, hb, hml, hown, hts9⟩
  obtain ⟨x1, ex1⟩ : ∃ z, z = xs 1 := ⟨_, rfl⟩
  obtain ⟨x2, ex2⟩ : ∃ z, z = xs 2 := ⟨_, rfl⟩
  obtain ⟨x3, ex3⟩ : ∃ z, z = xs 3 := ⟨_, rfl⟩
  obtain ⟨x4, ex4⟩ : ∃ z, z = xs 4 := ⟨_, rfl⟩
  obtain ⟨x5, ex5⟩ : ∃ z, z = xs 5 := ⟨_, rfl⟩
  refine lv_aload_n hx hb dL_law_2413 rfl (lv_at hl 4 rfl) ?_
  refine lv_aload_n hx hb dL_law_2414 rfl (lv_at hl 2 rfl) ?_
  have hPc := hP.sub (ws' := (fz_WC k q f pa v ++ ([(o, .inl (k 5, 1, .inr (.inl g)))]))) [0, 1, 2, 3, 4, 5, 6, 7, 8, 9, 10, 11, 12, 13, 14, 15, 16, 17, 18, 19, 20, 21, 22, 23, 24, 25, 26, 27, 28, 29, 30, 31, 32, 33, 34, 35, 36, 37, 38] rfl
  have hDc : va_D (va_A (fz_WC k q f pa v ++ ([(o, .inl (k 5, 1, .inr (.inl g)))])) H.size) (fz_WC k q f pa v ++ ([(o, .inl (k 5, 1, .inr (.inl g)))])) := (hD.sub (ws' := (fz_WC k q f pa v ++ ([(o, .inl (k 5, 1, .inr (.inl g)))]))) [0, 1, 2, 3, 4, 5, 6, 7, 8, 9, 10, 11, 12, 13, 14, 15, 16, 17, 18, 19, 20, 21, 22, 23, 24, 25, 26, 27, 28, 29, 30, 31, 32, 33, 34, 35, 36, 37, 38] (by decide) rfl).self
  have hFc := va_free (wc := (fz_WC k q f pa v ++ ([(o, .inl (k 5, 1, .inr (.inl g)))]))) hD hS hA [0, 1, 2, 3, 4, 5, 6, 7, 8, 9, 10, 11, 12, 13, 14, 15, 16, 17, 18, 19, 20, 21, 22, 23, 24, 25, 26, 27, 28, 29, 30, 31, 32, 33, 34, 35, 36, 37, 38] rfl
  refine fz_hSi (As := [.ref (q 31), .ref o]) (rest := []) S0 (h_restore l hl0 (va_A (fz_WC k q f pa v ++ ([(o, .inl (k 5, 1, .inr (.inl g)))])) H.size) D k q f pa v o g  g_pa_8) (vx_cwSW 2 hts9 (fz_gSW fm_811 fm_1023 fm_1024 fm_816) rfl rfl rfl ⟨by decide, by decide, by decide +kernel⟩ ⟨Nat.le_of_ble_eq_true rfl, Nat.le_of_ble_eq_true rfl⟩) hFc (fun a9 h9 => Or.inr h9) hG hS hPc hK hDc rfl hl.1 rfl (Nat.le_of_ble_eq_true rfl) dL_law_2415 ⟨Nat.le_of_ble_eq_true rfl, Nat.le_of_ble_eq_true rfl⟩ (fun r_1 u_1 H locs hw hz1 hk1 hP1 hS => ?_)
  obtain ⟨hP, hD⟩ := va_join (wr := ([(o2, .inl (k 6, 1, .inr (.inr (.inr (.inl g2)))))] ++ (fz_WM k q2 f2 pa2 v2))) (w1 := ([(o, .inl (k 5, 1, .inr (.inl u_1)))])) hP hD [0, 1, 2, 3, 4, 5, 6, 7, 8, 9, 10, 11, 12, 13, 14, 15, 16, 17, 18, 19, 20, 21, 22, 23, 24, 25, 26, 27, 28, 29, 30, 31, 32, 33, 34, 35, 36, 37, 38] [39, 40, 41, 42, 43, 44, 45, 46, 47] rfl rfl (by decide) (by decide) hk1 hFc hP1 (fz_Dsame (hDc.sub (ws' := [(o, .inl (k 5, 1, .inr (.inl g)))]) [38] (by decide) rfl) rfl)
  have hP : va_P D vwCl ([(o2, .inl (k 6, 1, .inr (.inr (.inr (.inl g2)))))] ++ (fz_WM k q2 f2 pa2 v2 ++ ([(o, .inl (k 5, 1, .inr (.inl u_1)))]))) H := hP
  have hD : va_D (fun q : Nat => s.heap.size ≤ q) ([(o2, .inl (k 6, 1, .inr (.inr (.inr (.inl g2)))))] ++ (fz_WM k q2 f2 pa2 v2 ++ ([(o, .inl (k 5, 1, .inr (.inl u_1)))]))) := hD
  rcases hw with ⟨rfl, hc_1⟩
  · skip
    refine lv_istore (lv' := [(6, .int 1), (5, .int 0), (4, .ref o2), (3, .ref o), (2, .ref (q2 0)), (1, .ref (q 31)), (0, .ref b)]) hx hb dL_law_2418 hl (by decide) rfl (fun ls hl => ?_)
    refine lv_aload_n hx hb dL_law_2420 rfl (lv_at hl 4 rfl) ?_
    have hPc := hP.sub (ws' := (fz_WM k q2 f2 pa2 v2)) [1, 2, 3, 4, 5, 6, 7, 8] rfl
    have hDc : va_D (va_A (fz_WM k q2 f2 pa2 v2) H.size) (fz_WM k q2 f2 pa2 v2) := (hD.sub (ws' := (fz_WM k q2 f2 pa2 v2)) [1, 2, 3, 4, 5, 6, 7, 8] (by decide) rfl).self
    have hFc := va_free (wc := (fz_WM k q2 f2 pa2 v2)) hD hS hA [1, 2, 3, 4, 5, 6, 7, 8] rfl
    refine fz_cVi (As := []) (rest := []) S0 (m_p_restore l (va_A (fz_WM k q2 f2 pa2 v2) H.size) D k q2 f2 pa2 v2  n_v_6) (fz_cwV (C := RX10) 0 hts9 fm_1025 fm_1026 fm_1027 fm_1028 fm_469 rfl rfl ⟨by decide, by decide, by decide +kernel⟩ ⟨Nat.le_of_ble_eq_true rfl, Nat.le_of_ble_eq_true rfl⟩) (va_recv hK hPc (ci := 14) (q0 := 0) rfl rfl) hFc (fun a9 h9 => Or.inr h9) hG hS hPc hK hDc rfl hl.1 rfl (Nat.le_of_ble_eq_true rfl) dL_law_2421 ⟨Nat.le_of_ble_eq_true rfl, Nat.le_of_ble_eq_true rfl⟩ (fun r_2 u_2 H locs hw hz1 hk1 hP1 hS => ?_)
    obtain ⟨hP, hD⟩ := va_join (wr := ([(o2, .inl (k 6, 1, .inr (.inr (.inr (.inl g2)))))] ++ ([(o, .inl (k 5, 1, .inr (.inl u_1)))]))) (w1 := (fz_MO q2 u_2)) hP hD [1, 2, 3, 4, 5, 6, 7, 8] [0, 9] rfl rfl (by decide) (by decide) hk1 hFc hP1 (fz_Dsame (hDc.sub (ws' := fz_MO q2 v2) [0] (by decide) rfl) rfl)
    have hP : va_P D vwCl ([(o2, .inl (k 6, 1, .inr (.inr (.inr (.inl g2)))))] ++ ([(o, .inl (k 5, 1, .inr (.inl u_1)))] ++ (fz_MO q2 u_2))) H := hP
    have hD : va_D (fun q : Nat => s.heap.size ≤ q) ([(o2, .inl (k 6, 1, .inr (.inr (.inr (.inl g2)))))] ++ ([(o, .inl (k 5, 1, .inr (.inl u_1)))] ++ (fz_MO q2 u_2))) := hD
    rcases hw with ⟨rfl, ht_2, hc_2⟩
    · skip
      refine lv_istore (lv' := [(7, .int 0), (6, .int 1), (5, .int 0), (4, .ref o2), (3, .ref o), (2, .ref (q2 0)), (1, .ref (q 31)), (0, .ref b)]) hx hb dL_law_2424 hl (by decide) rfl (fun ls hl => ?_)
      refine lv_aload_n hx hb dL_law_2426 rfl (lv_at hl 5 rfl) ?_
      have hPc := hP.sub (ws' := (fz_MO q2 u_2)) [2] rfl
      have hDc : va_D (va_A (fz_MO q2 u_2) H.size) (fz_MO q2 u_2) := (hD.sub (ws' := (fz_MO q2 u_2)) [2] (by decide) rfl).self
      have hFc := va_free (wc := (fz_MO q2 u_2)) hD hS hA [2] rfl
      refine fz_cVi (As := []) (rest := []) S0 (m_thrown l (va_A (fz_MO q2 u_2) H.size) D k q2 u_2) (fz_cwV (C := RX10) 0 hts9 fm_823 fm_824 fm_825 fm_826 fm_469 rfl rfl ⟨by decide, by decide, by decide +kernel⟩ ⟨Nat.le_of_ble_eq_true rfl, Nat.le_of_ble_eq_true rfl⟩) (va_recv hK hPc (ci := 14) (q0 := 0) rfl rfl) hFc (fun a9 h9 => Or.inr h9) hG hS hPc hK hDc rfl hl.1 rfl (Nat.le_of_ble_eq_true rfl) dL_law_2427 ⟨Nat.le_of_ble_eq_true rfl, Nat.le_of_ble_eq_true rfl⟩ (fun r_3 u_3 H locs hw hz1 hk1 hP1 hS => ?_)
      obtain ⟨hP, hD⟩ := va_join (wr := ([(o2, .inl (k 6, 1, .inr (.inr (.inr (.inl g2)))))] ++ ([(o, .inl (k 5, 1, .inr (.inl u_1)))]))) (w1 := (fz_MO q2 u_2)) hP hD [2] [0, 1] rfl rfl (by decide) (by decide) hk1 hFc hP1 hDc
      have hP : va_P D vwCl ([(o2, .inl (k 6, 1, .inr (.inr (.inr (.inl g2)))))] ++ ([(o, .inl (k 5, 1, .inr (.inl u_1)))] ++ (fz_MO q2 u_2))) H := hP
      have hD : va_D (fun q : Nat => s.heap.size ≤ q) ([(o2, .inl (k 6, 1, .inr (.inr (.inr (.inl g2)))))] ++ ([(o, .inl (k 5, 1, .inr (.inl u_1)))] ++ (fz_MO q2 u_2))) := hD
      obtain rfl : r_3 = u_2 0 := hw
      refine fz_I (y := 1) ht_2 ?_
      refine lv_iload hx hb dL_law_2430 (lv_at hl 1 rfl) ?_
      refine lv_icmp_eq (tgt := 2437) hx hb dL_law_2432 (by decide) (fun c9 => ?_) (fun c9 => absurd (by decide) c9)
      refine lv_iload hx hb dL_law_2437 (lv_at hl 1 rfl) ?_
      refine lv_if_ne (tgt := 2454) hx hb dL_law_2439 (by decide) (fun c9 => ?_) (fun c9 => absurd c9 (by decide))
      refine lv_goto (tgt := 2457) hx hb dL_law_2454 (by decide) ?_
      exact lw_tail hL C0 (Nat.le_of_ble_eq_true rfl) (Nat.le_of_ble_eq_true rfl) hS ls (lv_sub hl [2, 7] rfl)

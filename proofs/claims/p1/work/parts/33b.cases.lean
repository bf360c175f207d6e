set_option maxHeartbeats 8000000 in
set_option maxRecDepth 100000 in
theorem lw_case9 {p : Program} {l : Launch} {e : Env} {s : State} {m : MethodId} {below : List Frame} {meth : Method} {c : Code} {D : va_G} {b L : Nat} {xs : Nat → Int32} (hl0 : l.stackTraces = false) (hL : L = 6) (C0 : lw_At p s m meth c b L xs) (hG : fz_GS (fun q : Nat => s.heap.size ≤ q) s) (k : Nat → ClassId) (hK : va_K D vwCl (fz_tys k) s) (q q2 : Nat → Nat) (f f2 : Nat → Nat → Int32) (pa pa2 : Nat → Option Nat) (v v2 : Nat → Int32) (o o2 : Nat) (g : Nat → Int64) (g2 : Nat → UInt64) (hF : fz_LF q2 f pa v f2 pa2 v2) (H : Heap) (locs : List Loc) (hP : va_P D vwCl (fz_WC k q f pa v ++ ([(o, .inl (k 5, 1, .inr (.inl g)))] ++ ([(o2, .inl (k 6, 1, .inr (.inr (.inr (.inl g2)))))] ++ (fz_WM k q2 f2 pa2 v2)))) H) (hD : va_D (fun q : Nat => s.heap.size ≤ q) (fz_WC k q f pa v ++ ([(o, .inl (k 5, 1, .inr (.inl g)))] ++ ([(o2, .inl (k 6, 1, .inr (.inr (.inr (.inl g2)))))] ++ (fz_WM k q2 f2 pa2 v2))))) (hS : va_S (fun q : Nat => s.heap.size ≤ q) s.heap H locs) (ls : Array Slot) (hl : lv_has ls 9 [(5, .int 0), (4, .ref o2), (3, .ref o), (2, .ref (q2 0)), (1, .ref (q 31)), (0, .ref b)]) :
    W p l e room_1 s m #[Value.ref b] below meth c H locs 2000 400000 (lw_Z below #[Value.ref b] s) (F0 m 864 ls []) := by
  obtain ⟨g_v_0, g_v_1, g_v_2, g_v_3, g_v_4, g_v_5, g_v_6, g_v_7, g_v_8, g_v_9, g_v_10, g_v_11, g_v_12, g_v_13, g_v_14, g_v_15, g_v_17, g_f_2_0, g_f_4_0, g_f_5_0, g_f_6_0, g_f_7_0, g_f_8_0, g_f_9_0, g_f_11_0, g_f_18_0, g_f_19_0, g_pa_0, g_pa_1, g_pa_8, n_v_0, n_v_5, n_v_6, n_v_7, n_v_8, n_v_9, n_v_10, n_v_11, n_v_12, n_v_13, n_v_15, n_v_16, n_v_17, n_v_18, n_v_19, n_v_21, n_f_1_0, n_f_1_1, n_f_1_2, n_f_1_3, n_f_1_4, n_f_1_5, n_f_1_6, n_f_1_7, n_f_1_8, n_f_1_9, n_f_1_10, n_f_1_11, n_f_1_12, n_f_1_13, n_f_1_15, n_f_1_16, n_f_1_17, n_pb_0⟩ := hF
  obtain ⟨hx, hb, hr, hml, hown, hts, hX, hbl, hlocks, hgv⟩ := id C0
  subst hL
  have hL : (6 : Nat) = 6 := rfl
  have hA : ∀ q : Nat, s.heap.size ≤ q → (fun q : Nat => s.heap.size ≤ q) q := fun _ h => h
  have hbA : ¬ (fun q : Nat => s.heap.size ≤ q) b := Nat.not_le.mpr hbl
  have hts9 := fz_hts9 hts
  have hown : s.vm.findClass RL = some m.cls := hown
  have S0 : CallFix p m c code 9 s #[Value.ref b] (Cond.initialized RL :: fz_WA) RL := ⟨hx, hb, hml, hown, hts9⟩
  obtain ⟨x1, ex1⟩ : ∃ z, z = xs 1 := ⟨_, rfl⟩
  obtain ⟨x2, ex2⟩ : ∃ z, z = xs 2 := ⟨_, rfl⟩
  obtain ⟨x3, ex3⟩ : ∃ z, z = xs 3 := ⟨_, rfl⟩
  obtain ⟨x4, ex4⟩ : ∃ z, z = xs 4 := ⟨_, rfl⟩
  obtain ⟨x5, ex5⟩ : ∃ z, z = xs 5 := ⟨_, rfl⟩
  refine lv_aload_n hx hb dL_law_864 rfl (lv_at hl 4 rfl) ?_
  refine lv_aload_n hx hb dL_law_865 rfl (lv_at hl 5 rfl) ?_
  refine lv_iload hx hb dL_law_866 (lv_at hl 0 rfl) ?_
  refine lv_iconst (v := 1) hx hb dL_law_868 (by decide) ?_
  refine lv_iadd hx hb dL_law_869 ?_
  refine fz_I (y := 1) (by decide) ?_
  refine va_sld hx hb hX hbl hbA hS (fz_vin (by decide)) dL_law_870 ?_
  refine fz_I (y := x1) ex1.symm ?_
  refine lv_aload_n hx hb dL_law_871 rfl (lv_at hl 2 rfl) ?_
  have hPc := hP.sub (ws' := (fz_WC k q f pa v ++ ([(o, .inl (k 5, 1, .inr (.inl g)))]))) [0, 1, 2, 3, 4, 5, 6, 7, 8, 9, 10, 11, 12, 13, 14, 15, 16, 17, 18, 19, 20, 21, 22, 23, 24, 25, 26, 27, 28, 29, 30, 31, 32, 33, 34, 35, 36, 37, 38] rfl
  have hDc : va_D (va_A (fz_WC k q f pa v ++ ([(o, .inl (k 5, 1, .inr (.inl g)))])) H.size) (fz_WC k q f pa v ++ ([(o, .inl (k 5, 1, .inr (.inl g)))])) := (hD.sub (ws' := (fz_WC k q f pa v ++ ([(o, .inl (k 5, 1, .inr (.inl g)))]))) [0, 1, 2, 3, 4, 5, 6, 7, 8, 9, 10, 11, 12, 13, 14, 15, 16, 17, 18, 19, 20, 21, 22, 23, 24, 25, 26, 27, 28, 29, 30, 31, 32, 33, 34, 35, 36, 37, 38] (by decide) rfl).self
  have hFc := va_free (wc := (fz_WC k q f pa v ++ ([(o, .inl (k 5, 1, .inr (.inl g)))]))) hD hS hA [0, 1, 2, 3, 4, 5, 6, 7, 8, 9, 10, 11, 12, 13, 14, 15, 16, 17, 18, 19, 20, 21, 22, 23, 24, 25, 26, 27, 28, 29, 30, 31, 32, 33, 34, 35, 36, 37, 38] rfl
  refine fz_hSi (As := [.ref (q 31), .int x1, .ref o]) (rest := []) S0 (h_firstDay l hl0 (va_A (fz_WC k q f pa v ++ ([(o, .inl (k 5, 1, .inr (.inl g)))])) H.size) D k q f pa v o g x1 g_v_7) (vx_cwSW 3 hts9 (fz_gSW fm_697 fm_875 fm_876 fm_816) rfl rfl rfl ⟨by decide, by decide, by decide +kernel⟩ ⟨Nat.le_of_ble_eq_true rfl, Nat.le_of_ble_eq_true rfl⟩) hFc (fun a9 h9 => Or.inr h9) hG hS hPc hK hDc rfl hl.1 rfl (Nat.le_of_ble_eq_true rfl) dL_law_872 ⟨Nat.le_of_ble_eq_true rfl, Nat.le_of_ble_eq_true rfl⟩ (fun r_1 u_1 H locs hw hz1 hk1 hP1 hS => ?_)
  obtain ⟨hP, hD⟩ := va_join (wr := ([(o2, .inl (k 6, 1, .inr (.inr (.inr (.inl g2)))))] ++ (fz_WM k q2 f2 pa2 v2))) (w1 := ([(o, .inl (k 5, 1, .inr (.inl u_1)))])) hP hD [0, 1, 2, 3, 4, 5, 6, 7, 8, 9, 10, 11, 12, 13, 14, 15, 16, 17, 18, 19, 20, 21, 22, 23, 24, 25, 26, 27, 28, 29, 30, 31, 32, 33, 34, 35, 36, 37, 38] [39, 40, 41, 42, 43, 44, 45, 46, 47] rfl rfl (by decide) (by decide) hk1 hFc hP1 (fz_Dsame (hDc.sub (ws' := [(o, .inl (k 5, 1, .inr (.inl g)))]) [38] (by decide) rfl) rfl)
  have hP : va_P D vwCl ([(o2, .inl (k 6, 1, .inr (.inr (.inr (.inl g2)))))] ++ (fz_WM k q2 f2 pa2 v2 ++ ([(o, .inl (k 5, 1, .inr (.inl u_1)))]))) H := hP
  have hD : va_D (fun q : Nat => s.heap.size ≤ q) ([(o2, .inl (k 6, 1, .inr (.inr (.inr (.inl g2)))))] ++ (fz_WM k q2 f2 pa2 v2 ++ ([(o, .inl (k 5, 1, .inr (.inl u_1)))]))) := hD
  rcases hw with ⟨rfl, hc_1⟩
  · skip
    refine lv_istore (lv' := [(6, .int 1), (5, .int 0), (4, .ref o2), (3, .ref o), (2, .ref (q2 0)), (1, .ref (q 31)), (0, .ref b)]) hx hb dL_law_875 hl (by decide) rfl (fun ls hl => ?_)
    refine lv_aload_n hx hb dL_law_877 rfl (lv_at hl 4 rfl) ?_
    refine lv_aload_n hx hb dL_law_878 rfl (lv_at hl 6 rfl) ?_
    refine lv_iload hx hb dL_law_879 (lv_at hl 1 rfl) ?_
    refine lv_iconst (v := 1) hx hb dL_law_881 (by decide) ?_
    refine lv_iadd hx hb dL_law_882 ?_
    refine fz_I (y := 1) (by decide) ?_
    refine va_sld hx hb hX hbl hbA hS (fz_vin (by decide)) dL_law_883 ?_
    refine fz_I (y := x1) ex1.symm ?_
    have hPc := hP.sub (ws' := (fz_WM k q2 f2 pa2 v2)) [1, 2, 3, 4, 5, 6, 7, 8] rfl
    have hDc : va_D (va_A (fz_WM k q2 f2 pa2 v2) H.size) (fz_WM k q2 f2 pa2 v2) := (hD.sub (ws' := (fz_WM k q2 f2 pa2 v2)) [1, 2, 3, 4, 5, 6, 7, 8] (by decide) rfl).self
    have hFc := va_free (wc := (fz_WM k q2 f2 pa2 v2)) hD hS hA [1, 2, 3, 4, 5, 6, 7, 8] rfl
    refine fz_cVi (As := [.int x1]) (rest := []) S0 (m_p_firstDay l (va_A (fz_WM k q2 f2 pa2 v2) H.size) D k q2 f2 pa2 v2 x1 n_f_1_3) (fz_cwV (C := RX10) 1 hts9 fm_877 fm_878 fm_879 fm_880 fm_469 rfl rfl ⟨by decide, by decide, by decide +kernel⟩ ⟨Nat.le_of_ble_eq_true rfl, Nat.le_of_ble_eq_true rfl⟩) (va_recv hK hPc (ci := 14) (q0 := 0) rfl rfl) hFc (fun a9 h9 => Or.inr h9) hG hS hPc hK hDc rfl hl.1 rfl (Nat.le_of_ble_eq_true rfl) dL_law_884 ⟨Nat.le_of_ble_eq_true rfl, Nat.le_of_ble_eq_true rfl⟩ (fun r_2 u_2 H locs hw hz1 hk1 hP1 hS => ?_)
    obtain ⟨hP, hD⟩ := va_join (wr := ([(o2, .inl (k 6, 1, .inr (.inr (.inr (.inl g2)))))] ++ ([(o, .inl (k 5, 1, .inr (.inl u_1)))]))) (w1 := (fz_MO q2 u_2)) hP hD [1, 2, 3, 4, 5, 6, 7, 8] [0, 9] rfl rfl (by decide) (by decide) hk1 hFc hP1 (fz_Dsame (hDc.sub (ws' := fz_MO q2 v2) [0] (by decide) rfl) rfl)
    have hP : va_P D vwCl ([(o2, .inl (k 6, 1, .inr (.inr (.inr (.inl g2)))))] ++ ([(o, .inl (k 5, 1, .inr (.inl u_1)))] ++ (fz_MO q2 u_2))) H := hP
    have hD : va_D (fun q : Nat => s.heap.size ≤ q) ([(o2, .inl (k 6, 1, .inr (.inr (.inr (.inl g2)))))] ++ ([(o, .inl (k 5, 1, .inr (.inl u_1)))] ++ (fz_MO q2 u_2))) := hD
    rcases hw with ⟨rfl, ht_2, hc_2⟩
    · skip
      refine lv_istore (lv' := [(7, .int 0), (6, .int 1), (5, .int 0), (4, .ref o2), (3, .ref o), (2, .ref (q2 0)), (1, .ref (q 31)), (0, .ref b)]) hx hb dL_law_887 hl (by decide) rfl (fun ls hl => ?_)
      refine lv_aload_n hx hb dL_law_889 rfl (lv_at hl 5 rfl) ?_
      have hPc := hP.sub (ws' := (fz_MO q2 u_2)) [2] rfl
      have hDc : va_D (va_A (fz_MO q2 u_2) H.size) (fz_MO q2 u_2) := (hD.sub (ws' := (fz_MO q2 u_2)) [2] (by decide) rfl).self
      have hFc := va_free (wc := (fz_MO q2 u_2)) hD hS hA [2] rfl
      refine fz_cVi (As := []) (rest := []) S0 (m_thrown l (va_A (fz_MO q2 u_2) H.size) D k q2 u_2) (fz_cwV (C := RX10) 0 hts9 fm_823 fm_824 fm_825 fm_826 fm_469 rfl rfl ⟨by decide, by decide, by decide +kernel⟩ ⟨Nat.le_of_ble_eq_true rfl, Nat.le_of_ble_eq_true rfl⟩) (va_recv hK hPc (ci := 14) (q0 := 0) rfl rfl) hFc (fun a9 h9 => Or.inr h9) hG hS hPc hK hDc rfl hl.1 rfl (Nat.le_of_ble_eq_true rfl) dL_law_890 ⟨Nat.le_of_ble_eq_true rfl, Nat.le_of_ble_eq_true rfl⟩ (fun r_3 u_3 H locs hw hz1 hk1 hP1 hS => ?_)
      obtain ⟨hP, hD⟩ := va_join (wr := ([(o2, .inl (k 6, 1, .inr (.inr (.inr (.inl g2)))))] ++ ([(o, .inl (k 5, 1, .inr (.inl u_1)))]))) (w1 := (fz_MO q2 u_2)) hP hD [2] [0, 1] rfl rfl (by decide) (by decide) hk1 hFc hP1 hDc
      have hP : va_P D vwCl ([(o2, .inl (k 6, 1, .inr (.inr (.inr (.inl g2)))))] ++ ([(o, .inl (k 5, 1, .inr (.inl u_1)))] ++ (fz_MO q2 u_2))) H := hP
      have hD : va_D (fun q : Nat => s.heap.size ≤ q) ([(o2, .inl (k 6, 1, .inr (.inr (.inr (.inl g2)))))] ++ ([(o, .inl (k 5, 1, .inr (.inl u_1)))] ++ (fz_MO q2 u_2))) := hD
      obtain rfl : r_3 = u_2 0 := hw
      refine fz_I (y := 1) ht_2 ?_
      refine lv_iload hx hb dL_law_893 (lv_at hl 1 rfl) ?_
      refine lv_icmp_eq (tgt := 900) hx hb dL_law_895 (by decide) (fun c9 => ?_) (fun c9 => absurd (by decide) c9)
      refine lv_iload hx hb dL_law_900 (lv_at hl 1 rfl) ?_
      refine lv_if_ne (tgt := 917) hx hb dL_law_902 (by decide) (fun c9 => ?_) (fun c9 => absurd c9 (by decide))
      refine lv_goto (tgt := 2457) hx hb dL_law_917 (by decide) ?_
      exact lw_tail hL C0 (Nat.le_of_ble_eq_true rfl) (Nat.le_of_ble_eq_true rfl) hS ls (lv_sub hl [2, 7] rfl)

set_option maxHeartbeats 8000000 in
set_option maxRecDepth 100000 in
theorem lw_case10 {p : Program} {l : Launch} {e : Env} {s : State} {m : MethodId} {below : List Frame} {meth : Method} {c : Code} {D : va_G} {b L : Nat} {xs : Nat → Int32} (hl0 : l.stackTraces = false) (hL : L = 6) (C0 : lw_At p s m meth c b L xs) (hG : fz_GS (fun q : Nat => s.heap.size ≤ q) s) (k : Nat → ClassId) (hK : va_K D vwCl (fz_tys k) s) (q q2 : Nat → Nat) (f f2 : Nat → Nat → Int32) (pa pa2 : Nat → Option Nat) (v v2 : Nat → Int32) (o o2 : Nat) (g : Nat → Int64) (g2 : Nat → UInt64) (hF : fz_LF q2 f pa v f2 pa2 v2) (H : Heap) (locs : List Loc) (hP : va_P D vwCl (fz_WC k q f pa v ++ ([(o, .inl (k 5, 1, .inr (.inl g)))] ++ ([(o2, .inl (k 6, 1, .inr (.inr (.inr (.inl g2)))))] ++ (fz_WM k q2 f2 pa2 v2)))) H) (hD : va_D (fun q : Nat => s.heap.size ≤ q) (fz_WC k q f pa v ++ ([(o, .inl (k 5, 1, .inr (.inl g)))] ++ ([(o2, .inl (k 6, 1, .inr (.inr (.inr (.inl g2)))))] ++ (fz_WM k q2 f2 pa2 v2))))) (hS : va_S (fun q : Nat => s.heap.size ≤ q) s.heap H locs) (ls : Array Slot) (hl : lv_has ls 9 [(5, .int 0), (4, .ref o2), (3, .ref o), (2, .ref (q2 0)), (1, .ref (q 31)), (0, .ref b)]) :
    W p l e room_1 s m #[Value.ref b] below meth c H locs 2000 400000 (lw_Z below #[Value.ref b] s) (F0 m 920 ls []) := by
  obtain ⟨g_v_0, g_v_1, g_v_2, g_v_3, g_v_4, g_v_5, g_v_6, g_v_7, g_v_8, g_v_9, g_v_10, g_v_11, g_v_12, g_v_13, g_v_14, g_v_15, g_v_17, g_f_2_0, g_f_4_0, g_f_5_0, g_f_6_0, g_f_7_0, g_f_8_0, g_f_9_0, g_f_11_0, g_f_18_0, g_f_19_0, g_pa_0, g_pa_1, g_pa_8, n_v_0, n_v_5, n_v_6, n_v_7, n_v_8, n_v_9, n_v_10, n_v_11, n_v_12, n_v_13, n_v_15, n_v_16, n_v_17, n_v_18, n_v_19, n_v_21, n_f_1_0, n_f_1_1, n_f_1_2, n_f_1_3, n_f_1_4, n_f_1_5, n_f_1_6, n_f_1_7, n_f_1_8, n_f_1_9, n_f_1_10, n_f_1_11, n_f_1_12, n_f_1_13, n_f_1_15, n_f_1_16, n_f_1_17, n_pb_0⟩ := hF
  obtain ⟨hx, hb, hr, hml, hown, hts, hX, hbl, hlocks, hgv⟩ := id C0
  subst hL
  have hL : (6 : Nat) = 6 := rfl
  have hA : ∀ q : Nat, s.heap.size ≤ q → (fun q : Nat => s.heap.size ≤ q) q := fun _ h => h
  have hbA : ¬ (fun q : Nat => s.heap.size ≤ q) b := Nat.not_le.mpr hbl
  have hts9 := fz_hts9 hts
  have hown : s.vm.findClass RL = some m.cls := hown
  have S0 : CallFix p m c code 9 s #[Value.ref b] (Cond.initialized RL :: fz_WA) RL := ⟨hx, hb, hml, hown, hts9⟩
  obtain ⟨x1, ex1⟩ : ∃ z, z = xs 1 := ⟨_, rfl⟩
  obtain ⟨x2, ex2⟩ : ∃ z, z = xs 2 := ⟨_, rfl⟩
  obtain ⟨x3, ex3⟩ : ∃ z, z = xs 3 := ⟨_, rfl⟩
  obtain ⟨x4, ex4⟩ : ∃ z, z = xs 4 := ⟨_, rfl⟩
  obtain ⟨x5, ex5⟩ : ∃ z, z = xs 5 := ⟨_, rfl⟩
  refine lv_aload_n hx hb dL_law_920 rfl (lv_at hl 4 rfl) ?_
  refine lv_aload_n hx hb dL_law_921 rfl (lv_at hl 5 rfl) ?_
  refine lv_iload hx hb dL_law_922 (lv_at hl 0 rfl) ?_
  refine lv_iconst (v := 1) hx hb dL_law_924 (by decide) ?_
  refine lv_iadd hx hb dL_law_925 ?_
  refine fz_I (y := 1) (by decide) ?_
  refine va_sld hx hb hX hbl hbA hS (fz_vin (by decide)) dL_law_926 ?_
  refine fz_I (y := x1) ex1.symm ?_
  refine lv_aload_n hx hb dL_law_927 rfl (lv_at hl 2 rfl) ?_
  have hPc := hP.sub (ws' := (fz_WC k q f pa v ++ ([(o, .inl (k 5, 1, .inr (.inl g)))]))) [0, 1, 2, 3, 4, 5, 6, 7, 8, 9, 10, 11, 12, 13, 14, 15, 16, 17, 18, 19, 20, 21, 22, 23, 24, 25, 26, 27, 28, 29, 30, 31, 32, 33, 34, 35, 36, 37, 38] rfl
  have hDc : va_D (va_A (fz_WC k q f pa v ++ ([(o, .inl (k 5, 1, .inr (.inl g)))])) H.size) (fz_WC k q f pa v ++ ([(o, .inl (k 5, 1, .inr (.inl g)))])) := (hD.sub (ws' := (fz_WC k q f pa v ++ ([(o, .inl (k 5, 1, .inr (.inl g)))]))) [0, 1, 2, 3, 4, 5, 6, 7, 8, 9, 10, 11, 12, 13, 14, 15, 16, 17, 18, 19, 20, 21, 22, 23, 24, 25, 26, 27, 28, 29, 30, 31, 32, 33, 34, 35, 36, 37, 38] (by decide) rfl).self
  have hFc := va_free (wc := (fz_WC k q f pa v ++ ([(o, .inl (k 5, 1, .inr (.inl g)))]))) hD hS hA [0, 1, 2, 3, 4, 5, 6, 7, 8, 9, 10, 11, 12, 13, 14, 15, 16, 17, 18, 19, 20, 21, 22, 23, 24, 25, 26, 27, 28, 29, 30, 31, 32, 33, 34, 35, 36, 37, 38] rfl
  refine fz_hSi (As := [.ref (q 31), .int x1, .ref o]) (rest := []) S0 (h_addContainer l hl0 (va_A (fz_WC k q f pa v ++ ([(o, .inl (k 5, 1, .inr (.inl g)))])) H.size) D k q f pa v o g x1 g_v_4 g_v_3 g_v_9 g_v_1 g_v_2 g_v_5 g_v_6 g_v_7 g_v_8 g_v_0 g_v_10 g_pa_1) (vx_cwSW 3 hts9 (fz_gSW fm_702 fm_881 fm_882 fm_816) rfl rfl rfl ⟨by decide, by decide, by decide +kernel⟩ ⟨Nat.le_of_ble_eq_true rfl, Nat.le_of_ble_eq_true rfl⟩) hFc (fun a9 h9 => Or.inr h9) hG hS hPc hK hDc rfl hl.1 rfl (Nat.le_of_ble_eq_true rfl) dL_law_928 ⟨Nat.le_of_ble_eq_true rfl, Nat.le_of_ble_eq_true rfl⟩ (fun r_1 u_1 H locs hw hz1 hk1 hP1 hS => ?_)
  obtain ⟨hP, hD⟩ := va_join (wr := ([(o2, .inl (k 6, 1, .inr (.inr (.inr (.inl g2)))))] ++ (fz_WM k q2 f2 pa2 v2))) (w1 := ([(o, .inl (k 5, 1, .inr (.inl u_1)))])) hP hD [0, 1, 2, 3, 4, 5, 6, 7, 8, 9, 10, 11, 12, 13, 14, 15, 16, 17, 18, 19, 20, 21, 22, 23, 24, 25, 26, 27, 28, 29, 30, 31, 32, 33, 34, 35, 36, 37, 38] [39, 40, 41, 42, 43, 44, 45, 46, 47] rfl rfl (by decide) (by decide) hk1 hFc hP1 (fz_Dsame (hDc.sub (ws' := [(o, .inl (k 5, 1, .inr (.inl g)))]) [38] (by decide) rfl) rfl)
  have hP : va_P D vwCl ([(o2, .inl (k 6, 1, .inr (.inr (.inr (.inl g2)))))] ++ (fz_WM k q2 f2 pa2 v2 ++ ([(o, .inl (k 5, 1, .inr (.inl u_1)))]))) H := hP
  have hD : va_D (fun q : Nat => s.heap.size ≤ q) ([(o2, .inl (k 6, 1, .inr (.inr (.inr (.inl g2)))))] ++ (fz_WM k q2 f2 pa2 v2 ++ ([(o, .inl (k 5, 1, .inr (.inl u_1)))]))) := hD
  rcases hw with ⟨rfl, hu_1, hc_1⟩ | ⟨rfl, hc_1⟩
  · skip
    refine lv_istore (lv' := [(6, .int 0), (5, .int 0), (4, .ref o2), (3, .ref o), (2, .ref (q2 0)), (1, .ref (q 31)), (0, .ref b)]) hx hb dL_law_931 hl (by decide) rfl (fun ls hl => ?_)
    refine lv_aload_n hx hb dL_law_933 rfl (lv_at hl 4 rfl) ?_
    refine lv_aload_n hx hb dL_law_934 rfl (lv_at hl 6 rfl) ?_
    refine lv_iload hx hb dL_law_935 (lv_at hl 1 rfl) ?_
    refine lv_iconst (v := 1) hx hb dL_law_937 (by decide) ?_
    refine lv_iadd hx hb dL_law_938 ?_
    refine fz_I (y := 1) (by decide) ?_
    refine va_sld hx hb hX hbl hbA hS (fz_vin (by decide)) dL_law_939 ?_
    refine fz_I (y := x1) ex1.symm ?_
    have hPc := hP.sub (ws' := (fz_WM k q2 f2 pa2 v2)) [1, 2, 3, 4, 5, 6, 7, 8] rfl
    have hDc : va_D (va_A (fz_WM k q2 f2 pa2 v2) H.size) (fz_WM k q2 f2 pa2 v2) := (hD.sub (ws' := (fz_WM k q2 f2 pa2 v2)) [1, 2, 3, 4, 5, 6, 7, 8] (by decide) rfl).self
    have hFc := va_free (wc := (fz_WM k q2 f2 pa2 v2)) hD hS hA [1, 2, 3, 4, 5, 6, 7, 8] rfl
    refine fz_cVi (As := [.int x1]) (rest := []) S0 (m_p_addContainer l (va_A (fz_WM k q2 f2 pa2 v2) H.size) D k q2 f2 pa2 v2 x1 n_f_1_2 n_v_5 n_pb_0) (fz_cwV (C := RX10) 1 hts9 fm_883 fm_884 fm_885 fm_886 fm_469 rfl rfl ⟨by decide, by decide, by decide +kernel⟩ ⟨Nat.le_of_ble_eq_true rfl, Nat.le_of_ble_eq_true rfl⟩) (va_recv hK hPc (ci := 14) (q0 := 0) rfl rfl) hFc (fun a9 h9 => Or.inr h9) hG hS hPc hK hDc rfl hl.1 rfl (Nat.le_of_ble_eq_true rfl) dL_law_940 ⟨Nat.le_of_ble_eq_true rfl, Nat.le_of_ble_eq_true rfl⟩ (fun r_2 u_2 H locs hw hz1 hk1 hP1 hS => ?_)
    obtain ⟨hP, hD⟩ := va_join (wr := ([(o2, .inl (k 6, 1, .inr (.inr (.inr (.inl g2)))))] ++ ([(o, .inl (k 5, 1, .inr (.inl u_1)))]))) (w1 := (fz_MO q2 u_2)) hP hD [1, 2, 3, 4, 5, 6, 7, 8] [0, 9] rfl rfl (by decide) (by decide) hk1 hFc hP1 (fz_Dsame (hDc.sub (ws' := fz_MO q2 v2) [0] (by decide) rfl) rfl)
    have hP : va_P D vwCl ([(o2, .inl (k 6, 1, .inr (.inr (.inr (.inl g2)))))] ++ ([(o, .inl (k 5, 1, .inr (.inl u_1)))] ++ (fz_MO q2 u_2))) H := hP
    have hD : va_D (fun q : Nat => s.heap.size ≤ q) ([(o2, .inl (k 6, 1, .inr (.inr (.inr (.inl g2)))))] ++ ([(o, .inl (k 5, 1, .inr (.inl u_1)))] ++ (fz_MO q2 u_2))) := hD
    rcases hw with ⟨rfl, ht_2, hc_2⟩ | ⟨rfl, ht_2, hc_2⟩
    · skip
      exact (fq_237 x1 hc_1 hc_2).elim
    · skip
      refine lv_istore (lv' := [(7, .int 0), (6, .int 0), (5, .int 0), (4, .ref o2), (3, .ref o), (2, .ref (q2 0)), (1, .ref (q 31)), (0, .ref b)]) hx hb dL_law_943 hl (by decide) rfl (fun ls hl => ?_)
      refine lv_aload_n hx hb dL_law_945 rfl (lv_at hl 5 rfl) ?_
      have hPc := hP.sub (ws' := (fz_MO q2 u_2)) [2] rfl
      have hDc : va_D (va_A (fz_MO q2 u_2) H.size) (fz_MO q2 u_2) := (hD.sub (ws' := (fz_MO q2 u_2)) [2] (by decide) rfl).self
      have hFc := va_free (wc := (fz_MO q2 u_2)) hD hS hA [2] rfl
      refine fz_cVi (As := []) (rest := []) S0 (m_thrown l (va_A (fz_MO q2 u_2) H.size) D k q2 u_2) (fz_cwV (C := RX10) 0 hts9 fm_823 fm_824 fm_825 fm_826 fm_469 rfl rfl ⟨by decide, by decide, by decide +kernel⟩ ⟨Nat.le_of_ble_eq_true rfl, Nat.le_of_ble_eq_true rfl⟩) (va_recv hK hPc (ci := 14) (q0 := 0) rfl rfl) hFc (fun a9 h9 => Or.inr h9) hG hS hPc hK hDc rfl hl.1 rfl (Nat.le_of_ble_eq_true rfl) dL_law_946 ⟨Nat.le_of_ble_eq_true rfl, Nat.le_of_ble_eq_true rfl⟩ (fun r_3 u_3 H locs hw hz1 hk1 hP1 hS => ?_)
      obtain ⟨hP, hD⟩ := va_join (wr := ([(o2, .inl (k 6, 1, .inr (.inr (.inr (.inl g2)))))] ++ ([(o, .inl (k 5, 1, .inr (.inl u_1)))]))) (w1 := (fz_MO q2 u_2)) hP hD [2] [0, 1] rfl rfl (by decide) (by decide) hk1 hFc hP1 hDc
      have hP : va_P D vwCl ([(o2, .inl (k 6, 1, .inr (.inr (.inr (.inl g2)))))] ++ ([(o, .inl (k 5, 1, .inr (.inl u_1)))] ++ (fz_MO q2 u_2))) H := hP
      have hD : va_D (fun q : Nat => s.heap.size ≤ q) ([(o2, .inl (k 6, 1, .inr (.inr (.inr (.inl g2)))))] ++ ([(o, .inl (k 5, 1, .inr (.inl u_1)))] ++ (fz_MO q2 u_2))) := hD
      obtain rfl : r_3 = u_2 0 := hw
      refine fz_I (y := 0) ht_2 ?_
      refine lv_iload hx hb dL_law_949 (lv_at hl 1 rfl) ?_
      refine lv_icmp_eq (tgt := 956) hx hb dL_law_951 (by decide) (fun c9 => ?_) (fun c9 => absurd (by decide) c9)
      refine lv_iload hx hb dL_law_956 (lv_at hl 1 rfl) ?_
      refine lv_if_ne (tgt := 973) hx hb dL_law_958 (by decide) (fun c9 => absurd (by decide) c9) (fun c9 => ?_)
      refine lv_aload_n hx hb dL_law_961 rfl (lv_at hl 4 rfl) ?_
      refine lv_iconst (v := 0) hx hb dL_law_962 (by decide) ?_
      refine va_lald hx hb hK hP 1 5 rfl rfl (fz_vin (by decide)) dL_law_963 ?_
      refine fz_V (y := .long ((0 : Int32).toInt64)) (congrArg Value.long hu_1) ?_
      refine lv_iload hx hb dL_law_964 (lv_at hl 0 rfl) ?_
      refine lv_i2l (v := (0 : Int32).toInt64) hx hb dL_law_966 rfl ?_
      refine W.lcmp hx hb dL_law_967 ?_
      refine fz_I (y := 0) (by decide) ?_
      refine lv_if_eq (tgt := 973) hx hb dL_law_968 (by decide) (fun c9 => ?_) (fun c9 => absurd (by decide) c9)
      refine lv_goto (tgt := 2457) hx hb dL_law_973 (by decide) ?_
      exact lw_tail hL C0 (Nat.le_of_ble_eq_true rfl) (Nat.le_of_ble_eq_true rfl) hS ls (lv_sub hl [2, 7] rfl)
  · skip
    refine lv_istore (lv' := [(6, .int 1), (5, .int 0), (4, .ref o2), (3, .ref o), (2, .ref (q2 0)), (1, .ref (q 31)), (0, .ref b)]) hx hb dL_law_931 hl (by decide) rfl (fun ls hl => ?_)
    refine lv_aload_n hx hb dL_law_933 rfl (lv_at hl 4 rfl) ?_
    refine lv_aload_n hx hb dL_law_934 rfl (lv_at hl 6 rfl) ?_
    refine lv_iload hx hb dL_law_935 (lv_at hl 1 rfl) ?_
    refine lv_iconst (v := 1) hx hb dL_law_937 (by decide) ?_
    refine lv_iadd hx hb dL_law_938 ?_
    refine fz_I (y := 1) (by decide) ?_
    refine va_sld hx hb hX hbl hbA hS (fz_vin (by decide)) dL_law_939 ?_
    refine fz_I (y := x1) ex1.symm ?_
    have hPc := hP.sub (ws' := (fz_WM k q2 f2 pa2 v2)) [1, 2, 3, 4, 5, 6, 7, 8] rfl
    have hDc : va_D (va_A (fz_WM k q2 f2 pa2 v2) H.size) (fz_WM k q2 f2 pa2 v2) := (hD.sub (ws' := (fz_WM k q2 f2 pa2 v2)) [1, 2, 3, 4, 5, 6, 7, 8] (by decide) rfl).self
    have hFc := va_free (wc := (fz_WM k q2 f2 pa2 v2)) hD hS hA [1, 2, 3, 4, 5, 6, 7, 8] rfl
    refine fz_cVi (As := [.int x1]) (rest := []) S0 (m_p_addContainer l (va_A (fz_WM k q2 f2 pa2 v2) H.size) D k q2 f2 pa2 v2 x1 n_f_1_2 n_v_5 n_pb_0) (fz_cwV (C := RX10) 1 hts9 fm_883 fm_884 fm_885 fm_886 fm_469 rfl rfl ⟨by decide, by decide, by decide +kernel⟩ ⟨Nat.le_of_ble_eq_true rfl, Nat.le_of_ble_eq_true rfl⟩) (va_recv hK hPc (ci := 14) (q0 := 0) rfl rfl) hFc (fun a9 h9 => Or.inr h9) hG hS hPc hK hDc rfl hl.1 rfl (Nat.le_of_ble_eq_true rfl) dL_law_940 ⟨Nat.le_of_ble_eq_true rfl, Nat.le_of_ble_eq_true rfl⟩ (fun r_2 u_2 H locs hw hz1 hk1 hP1 hS => ?_)
    obtain ⟨hP, hD⟩ := va_join (wr := ([(o2, .inl (k 6, 1, .inr (.inr (.inr (.inl g2)))))] ++ ([(o, .inl (k 5, 1, .inr (.inl u_1)))]))) (w1 := (fz_MO q2 u_2)) hP hD [1, 2, 3, 4, 5, 6, 7, 8] [0, 9] rfl rfl (by decide) (by decide) hk1 hFc hP1 (fz_Dsame (hDc.sub (ws' := fz_MO q2 v2) [0] (by decide) rfl) rfl)
    have hP : va_P D vwCl ([(o2, .inl (k 6, 1, .inr (.inr (.inr (.inl g2)))))] ++ ([(o, .inl (k 5, 1, .inr (.inl u_1)))] ++ (fz_MO q2 u_2))) H := hP
    have hD : va_D (fun q : Nat => s.heap.size ≤ q) ([(o2, .inl (k 6, 1, .inr (.inr (.inr (.inl g2)))))] ++ ([(o, .inl (k 5, 1, .inr (.inl u_1)))] ++ (fz_MO q2 u_2))) := hD
    rcases hw with ⟨rfl, ht_2, hc_2⟩ | ⟨rfl, ht_2, hc_2⟩
    · skip
      refine lv_istore (lv' := [(7, .int 0), (6, .int 1), (5, .int 0), (4, .ref o2), (3, .ref o), (2, .ref (q2 0)), (1, .ref (q 31)), (0, .ref b)]) hx hb dL_law_943 hl (by decide) rfl (fun ls hl => ?_)
      refine lv_aload_n hx hb dL_law_945 rfl (lv_at hl 5 rfl) ?_
      have hPc := hP.sub (ws' := (fz_MO q2 u_2)) [2] rfl
      have hDc : va_D (va_A (fz_MO q2 u_2) H.size) (fz_MO q2 u_2) := (hD.sub (ws' := (fz_MO q2 u_2)) [2] (by decide) rfl).self
      have hFc := va_free (wc := (fz_MO q2 u_2)) hD hS hA [2] rfl
      refine fz_cVi (As := []) (rest := []) S0 (m_thrown l (va_A (fz_MO q2 u_2) H.size) D k q2 u_2) (fz_cwV (C := RX10) 0 hts9 fm_823 fm_824 fm_825 fm_826 fm_469 rfl rfl ⟨by decide, by decide, by decide +kernel⟩ ⟨Nat.le_of_ble_eq_true rfl, Nat.le_of_ble_eq_true rfl⟩) (va_recv hK hPc (ci := 14) (q0 := 0) rfl rfl) hFc (fun a9 h9 => Or.inr h9) hG hS hPc hK hDc rfl hl.1 rfl (Nat.le_of_ble_eq_true rfl) dL_law_946 ⟨Nat.le_of_ble_eq_true rfl, Nat.le_of_ble_eq_true rfl⟩ (fun r_3 u_3 H locs hw hz1 hk1 hP1 hS => ?_)
      obtain ⟨hP, hD⟩ := va_join (wr := ([(o2, .inl (k 6, 1, .inr (.inr (.inr (.inl g2)))))] ++ ([(o, .inl (k 5, 1, .inr (.inl u_1)))]))) (w1 := (fz_MO q2 u_2)) hP hD [2] [0, 1] rfl rfl (by decide) (by decide) hk1 hFc hP1 hDc
      have hP : va_P D vwCl ([(o2, .inl (k 6, 1, .inr (.inr (.inr (.inl g2)))))] ++ ([(o, .inl (k 5, 1, .inr (.inl u_1)))] ++ (fz_MO q2 u_2))) H := hP
      have hD : va_D (fun q : Nat => s.heap.size ≤ q) ([(o2, .inl (k 6, 1, .inr (.inr (.inr (.inl g2)))))] ++ ([(o, .inl (k 5, 1, .inr (.inl u_1)))] ++ (fz_MO q2 u_2))) := hD
      obtain rfl : r_3 = u_2 0 := hw
      refine fz_I (y := 1) ht_2 ?_
      refine lv_iload hx hb dL_law_949 (lv_at hl 1 rfl) ?_
      refine lv_icmp_eq (tgt := 956) hx hb dL_law_951 (by decide) (fun c9 => ?_) (fun c9 => absurd (by decide) c9)
      refine lv_iload hx hb dL_law_956 (lv_at hl 1 rfl) ?_
      refine lv_if_ne (tgt := 973) hx hb dL_law_958 (by decide) (fun c9 => ?_) (fun c9 => absurd c9 (by decide))
      refine lv_goto (tgt := 2457) hx hb dL_law_973 (by decide) ?_
      exact lw_tail hL C0 (Nat.le_of_ble_eq_true rfl) (Nat.le_of_ble_eq_true rfl) hS ls (lv_sub hl [2, 7] rfl)
    · skip
      exact (fq_238 x1 hc_1 hc_2).elim

set_option maxHeartbeats 8000000 in
set_option maxRecDepth 100000 in
theorem lw_case11 {p : Program} {l : Launch} {e : Env} {s : State} {m : MethodId} {below : List Frame} {meth : Method} {c : Code} {D : va_G} {b L : Nat} {xs : Nat → Int32} (hl0 : l.stackTraces = false) (hL : L = 6) (C0 : lw_At p s m meth c b L xs) (hG : fz_GS (fun q : Nat => s.heap.size ≤ q) s) (k : Nat → ClassId) (hK : va_K D vwCl (fz_tys k) s) (q q2 : Nat → Nat) (f f2 : Nat → Nat → Int32) (pa pa2 : Nat → Option Nat) (v v2 : Nat → Int32) (o o2 : Nat) (g : Nat → Int64) (g2 : Nat → UInt64) (hF : fz_LF q2 f pa v f2 pa2 v2) (H : Heap) (locs : List Loc) (hP : va_P D vwCl (fz_WC k q f pa v ++ ([(o, .inl (k 5, 1, .inr (.inl g)))] ++ ([(o2, .inl (k 6, 1, .inr (.inr (.inr (.inl g2)))))] ++ (fz_WM k q2 f2 pa2 v2)))) H) (hD : va_D (fun q : Nat => s.heap.size ≤ q) (fz_WC k q f pa v ++ ([(o, .inl (k 5, 1, .inr (.inl g)))] ++ ([(o2, .inl (k 6, 1, .inr (.inr (.inr (.inl g2)))))] ++ (fz_WM k q2 f2 pa2 v2))))) (hS : va_S (fun q : Nat => s.heap.size ≤ q) s.heap H locs) (ls : Array Slot) (hl : lv_has ls 9 [(5, .int 0), (4, .ref o2), (3, .ref o), (2, .ref (q2 0)), (1, .ref (q 31)), (0, .ref b)]) :
    W p l e room_1 s m #[Value.ref b] below meth c H locs 2000 400000 (lw_Z below #[Value.ref b] s) (F0 m 976 ls []) := by
  obtain ⟨g_v_0, g_v_1, g_v_2, g_v_3, g_v_4, g_v_5, g_v_6, g_v_7, g_v_8, g_v_9, g_v_10, g_v_11, g_v_12, g_v_13, g_v_14, g_v_15, g_v_17, g_f_2_0, g_f_4_0, g_f_5_0, g_f_6_0, g_f_7_0, g_f_8_0, g_f_9_0, g_f_11_0, g_f_18_0, g_f_19_0, g_pa_0, g_pa_1, g_pa_8, n_v_0, n_v_5, n_v_6, n_v_7, n_v_8, n_v_9, n_v_10, n_v_11, n_v_12, n_v_13, n_v_15, n_v_16, n_v_17, n_v_18, n_v_19, n_v_21, n_f_1_0, n_f_1_1, n_f_1_2, n_f_1_3, n_f_1_4, n_f_1_5, n_f_1_6, n_f_1_7, n_f_1_8, n_f_1_9, n_f_1_10, n_f_1_11, n_f_1_12, n_f_1_13, n_f_1_15, n_f_1_16, n_f_1_17, n_pb_0⟩ := hF
  obtain ⟨hx, hb, hr, hml, hown, hts, hX, hbl, hlocks, hgv⟩ := id C0
  subst hL
  have hL : (6 : Nat) = 6 := rfl
  have hA : ∀ q : Nat, s.heap.size ≤ q → (fun q : Nat => s.heap.size ≤ q) q := fun _ h => h
  have hbA : ¬ (fun q : Nat => s.heap.size ≤ q) b := Nat.not_le.mpr hbl
  have hts9 := fz_hts9 hts
  have hown : s.vm.findClass RL = some m.cls := hown
  have S0 : CallFix p m c code 9 s #[Value.ref b] (Cond.initialized RL :: fz_WA) RL := ⟨hx, hb, hml, hown, hts9⟩
  obtain ⟨x1, ex1⟩ : ∃ z, z = xs 1 := ⟨_, rfl⟩
  obtain ⟨x2, ex2⟩ : ∃ z, z = xs 2 := ⟨_, rfl⟩
  obtain ⟨x3, ex3⟩ : ∃ z, z = xs 3 := ⟨_, rfl⟩
  obtain ⟨x4, ex4⟩ : ∃ z, z = xs 4 := ⟨_, rfl⟩
  obtain ⟨x5, ex5⟩ : ∃ z, z = xs 5 := ⟨_, rfl⟩
  refine lv_aload_n hx hb dL_law_976 rfl (lv_at hl 4 rfl) ?_
  refine lv_aload_n hx hb dL_law_977 rfl (lv_at hl 5 rfl) ?_
  refine lv_iload hx hb dL_law_978 (lv_at hl 0 rfl) ?_
  refine lv_iconst (v := 1) hx hb dL_law_980 (by decide) ?_
  refine lv_iadd hx hb dL_law_981 ?_
  refine fz_I (y := 1) (by decide) ?_
  refine va_sld hx hb hX hbl hbA hS (fz_vin (by decide)) dL_law_982 ?_
  refine fz_I (y := x1) ex1.symm ?_
  refine lv_aload_n hx hb dL_law_983 rfl (lv_at hl 5 rfl) ?_
  refine lv_iload hx hb dL_law_984 (lv_at hl 0 rfl) ?_
  refine lv_iconst (v := 2) hx hb dL_law_986 (by decide) ?_
  refine lv_iadd hx hb dL_law_987 ?_
  refine fz_I (y := 2) (by decide) ?_
  refine va_sld hx hb hX hbl hbA hS (fz_vin (by decide)) dL_law_988 ?_
  refine fz_I (y := x2) ex2.symm ?_
  refine lv_aload_n hx hb dL_law_989 rfl (lv_at hl 2 rfl) ?_
  have hPc := hP.sub (ws' := (fz_WC k q f pa v ++ ([(o, .inl (k 5, 1, .inr (.inl g)))]))) [0, 1, 2, 3, 4, 5, 6, 7, 8, 9, 10, 11, 12, 13, 14, 15, 16, 17, 18, 19, 20, 21, 22, 23, 24, 25, 26, 27, 28, 29, 30, 31, 32, 33, 34, 35, 36, 37, 38] rfl
  have hDc : va_D (va_A (fz_WC k q f pa v ++ ([(o, .inl (k 5, 1, .inr (.inl g)))])) H.size) (fz_WC k q f pa v ++ ([(o, .inl (k 5, 1, .inr (.inl g)))])) := (hD.sub (ws' := (fz_WC k q f pa v ++ ([(o, .inl (k 5, 1, .inr (.inl g)))]))) [0, 1, 2, 3, 4, 5, 6, 7, 8, 9, 10, 11, 12, 13, 14, 15, 16, 17, 18, 19, 20, 21, 22, 23, 24, 25, 26, 27, 28, 29, 30, 31, 32, 33, 34, 35, 36, 37, 38] (by decide) rfl).self
  have hFc := va_free (wc := (fz_WC k q f pa v ++ ([(o, .inl (k 5, 1, .inr (.inl g)))]))) hD hS hA [0, 1, 2, 3, 4, 5, 6, 7, 8, 9, 10, 11, 12, 13, 14, 15, 16, 17, 18, 19, 20, 21, 22, 23, 24, 25, 26, 27, 28, 29, 30, 31, 32, 33, 34, 35, 36, 37, 38] rfl
  refine fz_hSi (As := [.ref (q 31), .int x1, .int x2, .ref o]) (rest := []) S0 (h_put l hl0 (va_A (fz_WC k q f pa v ++ ([(o, .inl (k 5, 1, .inr (.inl g)))])) H.size) D k q f pa v o g x1 x2 g_v_1 g_f_4_0 g_v_3) (vx_cwSW 4 hts9 (fz_gSW fm_707 fm_887 fm_888 fm_816) rfl rfl rfl ⟨by decide, by decide, by decide +kernel⟩ ⟨Nat.le_of_ble_eq_true rfl, Nat.le_of_ble_eq_true rfl⟩) hFc (fun a9 h9 => Or.inr h9) hG hS hPc hK hDc rfl hl.1 rfl (Nat.le_of_ble_eq_true rfl) dL_law_990 ⟨Nat.le_of_ble_eq_true rfl, Nat.le_of_ble_eq_true rfl⟩ (fun r_1 u_1 H locs hw hz1 hk1 hP1 hS => ?_)
  obtain ⟨hP, hD⟩ := va_join (wr := ([(o2, .inl (k 6, 1, .inr (.inr (.inr (.inl g2)))))] ++ (fz_WM k q2 f2 pa2 v2))) (w1 := ([(o, .inl (k 5, 1, .inr (.inl u_1)))])) hP hD [0, 1, 2, 3, 4, 5, 6, 7, 8, 9, 10, 11, 12, 13, 14, 15, 16, 17, 18, 19, 20, 21, 22, 23, 24, 25, 26, 27, 28, 29, 30, 31, 32, 33, 34, 35, 36, 37, 38] [39, 40, 41, 42, 43, 44, 45, 46, 47] rfl rfl (by decide) (by decide) hk1 hFc hP1 (fz_Dsame (hDc.sub (ws' := [(o, .inl (k 5, 1, .inr (.inl g)))]) [38] (by decide) rfl) rfl)
  have hP : va_P D vwCl ([(o2, .inl (k 6, 1, .inr (.inr (.inr (.inl g2)))))] ++ (fz_WM k q2 f2 pa2 v2 ++ ([(o, .inl (k 5, 1, .inr (.inl u_1)))]))) H := hP
  have hD : va_D (fun q : Nat => s.heap.size ≤ q) ([(o2, .inl (k 6, 1, .inr (.inr (.inr (.inl g2)))))] ++ (fz_WM k q2 f2 pa2 v2 ++ ([(o, .inl (k 5, 1, .inr (.inl u_1)))]))) := hD
  rcases hw with ⟨rfl, hc_1⟩
  · skip
    refine lv_istore (lv' := [(6, .int 1), (5, .int 0), (4, .ref o2), (3, .ref o), (2, .ref (q2 0)), (1, .ref (q 31)), (0, .ref b)]) hx hb dL_law_993 hl (by decide) rfl (fun ls hl => ?_)
    refine lv_aload_n hx hb dL_law_995 rfl (lv_at hl 4 rfl) ?_
    refine lv_aload_n hx hb dL_law_996 rfl (lv_at hl 6 rfl) ?_
    refine lv_iload hx hb dL_law_997 (lv_at hl 1 rfl) ?_
    refine lv_iconst (v := 1) hx hb dL_law_999 (by decide) ?_
    refine lv_iadd hx hb dL_law_1000 ?_
    refine fz_I (y := 1) (by decide) ?_
    refine va_sld hx hb hX hbl hbA hS (fz_vin (by decide)) dL_law_1001 ?_
    refine fz_I (y := x1) ex1.symm ?_
    refine lv_aload_n hx hb dL_law_1002 rfl (lv_at hl 6 rfl) ?_
    refine lv_iload hx hb dL_law_1003 (lv_at hl 1 rfl) ?_
    refine lv_iconst (v := 2) hx hb dL_law_1005 (by decide) ?_
    refine lv_iadd hx hb dL_law_1006 ?_
    refine fz_I (y := 2) (by decide) ?_
    refine va_sld hx hb hX hbl hbA hS (fz_vin (by decide)) dL_law_1007 ?_
    refine fz_I (y := x2) ex2.symm ?_
    have hPc := hP.sub (ws' := (fz_WM k q2 f2 pa2 v2)) [1, 2, 3, 4, 5, 6, 7, 8] rfl
    have hDc : va_D (va_A (fz_WM k q2 f2 pa2 v2) H.size) (fz_WM k q2 f2 pa2 v2) := (hD.sub (ws' := (fz_WM k q2 f2 pa2 v2)) [1, 2, 3, 4, 5, 6, 7, 8] (by decide) rfl).self
    have hFc := va_free (wc := (fz_WM k q2 f2 pa2 v2)) hD hS hA [1, 2, 3, 4, 5, 6, 7, 8] rfl
    refine fz_cVi (As := [.int x1, .int x2]) (rest := []) S0 (m_p_put l (va_A (fz_WM k q2 f2 pa2 v2) H.size) D k q2 f2 pa2 v2 x1 x2 n_f_1_0 n_f_1_7 n_f_1_2) (fz_cwV (C := RX10) 2 hts9 fm_889 fm_890 fm_891 fm_892 fm_469 rfl rfl ⟨by decide, by decide, by decide +kernel⟩ ⟨Nat.le_of_ble_eq_true rfl, Nat.le_of_ble_eq_true rfl⟩) (va_recv hK hPc (ci := 14) (q0 := 0) rfl rfl) hFc (fun a9 h9 => Or.inr h9) hG hS hPc hK hDc rfl hl.1 rfl (Nat.le_of_ble_eq_true rfl) dL_law_1008 ⟨Nat.le_of_ble_eq_true rfl, Nat.le_of_ble_eq_true rfl⟩ (fun r_2 u_2 H locs hw hz1 hk1 hP1 hS => ?_)
    obtain ⟨hP, hD⟩ := va_join (wr := ([(o2, .inl (k 6, 1, .inr (.inr (.inr (.inl g2)))))] ++ ([(o, .inl (k 5, 1, .inr (.inl u_1)))]))) (w1 := (fz_MO q2 u_2)) hP hD [1, 2, 3, 4, 5, 6, 7, 8] [0, 9] rfl rfl (by decide) (by decide) hk1 hFc hP1 (fz_Dsame (hDc.sub (ws' := fz_MO q2 v2) [0] (by decide) rfl) rfl)
    have hP : va_P D vwCl ([(o2, .inl (k 6, 1, .inr (.inr (.inr (.inl g2)))))] ++ ([(o, .inl (k 5, 1, .inr (.inl u_1)))] ++ (fz_MO q2 u_2))) H := hP
    have hD : va_D (fun q : Nat => s.heap.size ≤ q) ([(o2, .inl (k 6, 1, .inr (.inr (.inr (.inl g2)))))] ++ ([(o, .inl (k 5, 1, .inr (.inl u_1)))] ++ (fz_MO q2 u_2))) := hD
    rcases hw with ⟨rfl, ht_2, hc_2⟩
    · skip
      refine lv_istore (lv' := [(7, .int 0), (6, .int 1), (5, .int 0), (4, .ref o2), (3, .ref o), (2, .ref (q2 0)), (1, .ref (q 31)), (0, .ref b)]) hx hb dL_law_1011 hl (by decide) rfl (fun ls hl => ?_)
      refine lv_aload_n hx hb dL_law_1013 rfl (lv_at hl 5 rfl) ?_
      have hPc := hP.sub (ws' := (fz_MO q2 u_2)) [2] rfl
      have hDc : va_D (va_A (fz_MO q2 u_2) H.size) (fz_MO q2 u_2) := (hD.sub (ws' := (fz_MO q2 u_2)) [2] (by decide) rfl).self
      have hFc := va_free (wc := (fz_MO q2 u_2)) hD hS hA [2] rfl
      refine fz_cVi (As := []) (rest := []) S0 (m_thrown l (va_A (fz_MO q2 u_2) H.size) D k q2 u_2) (fz_cwV (C := RX10) 0 hts9 fm_823 fm_824 fm_825 fm_826 fm_469 rfl rfl ⟨by decide, by decide, by decide +kernel⟩ ⟨Nat.le_of_ble_eq_true rfl, Nat.le_of_ble_eq_true rfl⟩) (va_recv hK hPc (ci := 14) (q0 := 0) rfl rfl) hFc (fun a9 h9 => Or.inr h9) hG hS hPc hK hDc rfl hl.1 rfl (Nat.le_of_ble_eq_true rfl) dL_law_1014 ⟨Nat.le_of_ble_eq_true rfl, Nat.le_of_ble_eq_true rfl⟩ (fun r_3 u_3 H locs hw hz1 hk1 hP1 hS => ?_)
      obtain ⟨hP, hD⟩ := va_join (wr := ([(o2, .inl (k 6, 1, .inr (.inr (.inr (.inl g2)))))] ++ ([(o, .inl (k 5, 1, .inr (.inl u_1)))]))) (w1 := (fz_MO q2 u_2)) hP hD [2] [0, 1] rfl rfl (by decide) (by decide) hk1 hFc hP1 hDc
      have hP : va_P D vwCl ([(o2, .inl (k 6, 1, .inr (.inr (.inr (.inl g2)))))] ++ ([(o, .inl (k 5, 1, .inr (.inl u_1)))] ++ (fz_MO q2 u_2))) H := hP
      have hD : va_D (fun q : Nat => s.heap.size ≤ q) ([(o2, .inl (k 6, 1, .inr (.inr (.inr (.inl g2)))))] ++ ([(o, .inl (k 5, 1, .inr (.inl u_1)))] ++ (fz_MO q2 u_2))) := hD
      obtain rfl : r_3 = u_2 0 := hw
      refine fz_I (y := 1) ht_2 ?_
      refine lv_iload hx hb dL_law_1017 (lv_at hl 1 rfl) ?_
      refine lv_icmp_eq (tgt := 1024) hx hb dL_law_1019 (by decide) (fun c9 => ?_) (fun c9 => absurd (by decide) c9)
      refine lv_iload hx hb dL_law_1024 (lv_at hl 1 rfl) ?_
      refine lv_if_ne (tgt := 1041) hx hb dL_law_1026 (by decide) (fun c9 => ?_) (fun c9 => absurd c9 (by decide))
      refine lv_goto (tgt := 2457) hx hb dL_law_1041 (by decide) ?_
      exact lw_tail hL C0 (Nat.le_of_ble_eq_true rfl) (Nat.le_of_ble_eq_true rfl) hS ls (lv_sub hl [2, 7] rfl)

set_option maxHeartbeats 8000000 in
set_option maxRecDepth 100000 in
theorem lw_case12 {p : Program} {l : Launch} {e : Env} {s : State} {m : MethodId} {below : List Frame} {meth : Method} {c : Code} {D : va_G} {b L : Nat} {xs : Nat → Int32} (hl0 : l.stackTraces = false) (hL : L = 6) (C0 : lw_At p s m meth c b L xs) (hG : fz_GS (fun q : Nat => s.heap.size ≤ q) s) (k : Nat → ClassId) (hK : va_K D vwCl (fz_tys k) s) (q q2 : Nat → Nat) (f f2 : Nat → Nat → Int32) (pa pa2 : Nat → Option Nat) (v v2 : Nat → Int32) (o o2 : Nat) (g : Nat → Int64) (g2 : Nat → UInt64) (hF : fz_LF q2 f pa v f2 pa2 v2) (H : Heap) (locs : List Loc) (hP : va_P D vwCl (fz_WC k q f pa v ++ ([(o, .inl (k 5, 1, .inr (.inl g)))] ++ ([(o2, .inl (k 6, 1, .inr (.inr (.inr (.inl g2)))))] ++ (fz_WM k q2 f2 pa2 v2)))) H) (hD : va_D (fun q : Nat => s.heap.size ≤ q) (fz_WC k q f pa v ++ ([(o, .inl (k 5, 1, .inr (.inl g)))] ++ ([(o2, .inl (k 6, 1, .inr (.inr (.inr (.inl g2)))))] ++ (fz_WM k q2 f2 pa2 v2))))) (hS : va_S (fun q : Nat => s.heap.size ≤ q) s.heap H locs) (ls : Array Slot) (hl : lv_has ls 9 [(5, .int 0), (4, .ref o2), (3, .ref o), (2, .ref (q2 0)), (1, .ref (q 31)), (0, .ref b)]) :
    W p l e room_1 s m #[Value.ref b] below meth c H locs 2000 400000 (lw_Z below #[Value.ref b] s) (F0 m 1044 ls []) := by
  obtain ⟨g_v_0, g_v_1, g_v_2, g_v_3, g_v_4, g_v_5, g_v_6, g_v_7, g_v_8, g_v_9, g_v_10, g_v_11, g_v_12, g_v_13, g_v_14, g_v_15, g_v_17, g_f_2_0, g_f_4_0, g_f_5_0, g_f_6_0, g_f_7_0, g_f_8_0, g_f_9_0, g_f_11_0, g_f_18_0, g_f_19_0, g_pa_0, g_pa_1, g_pa_8, n_v_0, n_v_5, n_v_6, n_v_7, n_v_8, n_v_9, n_v_10, n_v_11, n_v_12, n_v_13, n_v_15, n_v_16, n_v_17, n_v_18, n_v_19, n_v_21, n_f_1_0, n_f_1_1, n_f_1_2, n_f_1_3, n_f_1_4, n_f_1_5, n_f_1_6, n_f_1_7, n_f_1_8, n_f_1_9, n_f_1_10, n_f_1_11, n_f_1_12, n_f_1_13, n_f_1_15, n_f_1_16, n_f_1_17, n_pb_0⟩ := hF
  obtain ⟨hx, hb, hr, hml, hown, hts, hX, hbl, hlocks, hgv⟩ := id C0
  subst hL
  have hL : (6 : Nat) = 6 := rfl
  have hA : ∀ q : Nat, s.heap.size ≤ q → (fun q : Nat => s.heap.size ≤ q) q := fun _ h => h
  have hbA : ¬ (fun q : Nat => s.heap.size ≤ q) b := Nat.not_le.mpr hbl
  have hts9 := fz_hts9 hts
  have hown : s.vm.findClass RL = some m.cls := hown
  have S0 : CallFix p m c code 9 s #[Value.ref b] (Cond.initialized RL :: fz_WA) RL := ⟨hx, hb, hml, hown, hts9⟩
  obtain ⟨x1, ex1⟩ : ∃ z, z = xs 1 := ⟨_, rfl⟩
  obtain ⟨x2, ex2⟩ : ∃ z, z = xs 2 := ⟨_, rfl⟩
  obtain ⟨x3, ex3⟩ : ∃ z, z = xs 3 := ⟨_, rfl⟩
  obtain ⟨x4, ex4⟩ : ∃ z, z = xs 4 := ⟨_, rfl⟩
  obtain ⟨x5, ex5⟩ : ∃ z, z = xs 5 := ⟨_, rfl⟩
  refine lv_aload_n hx hb dL_law_1044 rfl (lv_at hl 4 rfl) ?_
  refine lv_aload_n hx hb dL_law_1045 rfl (lv_at hl 5 rfl) ?_
  refine lv_iload hx hb dL_law_1046 (lv_at hl 0 rfl) ?_
  refine lv_iconst (v := 1) hx hb dL_law_1048 (by decide) ?_
  refine lv_iadd hx hb dL_law_1049 ?_
  refine fz_I (y := 1) (by decide) ?_
  refine va_sld hx hb hX hbl hbA hS (fz_vin (by decide)) dL_law_1050 ?_
  refine fz_I (y := x1) ex1.symm ?_
  refine lv_aload_n hx hb dL_law_1051 rfl (lv_at hl 2 rfl) ?_
  have hPc := hP.sub (ws' := (fz_WC k q f pa v ++ ([(o, .inl (k 5, 1, .inr (.inl g)))]))) [0, 1, 2, 3, 4, 5, 6, 7, 8, 9, 10, 11, 12, 13, 14, 15, 16, 17, 18, 19, 20, 21, 22, 23, 24, 25, 26, 27, 28, 29, 30, 31, 32, 33, 34, 35, 36, 37, 38] rfl
  have hDc : va_D (va_A (fz_WC k q f pa v ++ ([(o, .inl (k 5, 1, .inr (.inl g)))])) H.size) (fz_WC k q f pa v ++ ([(o, .inl (k 5, 1, .inr (.inl g)))])) := (hD.sub (ws' := (fz_WC k q f pa v ++ ([(o, .inl (k 5, 1, .inr (.inl g)))]))) [0, 1, 2, 3, 4, 5, 6, 7, 8, 9, 10, 11, 12, 13, 14, 15, 16, 17, 18, 19, 20, 21, 22, 23, 24, 25, 26, 27, 28, 29, 30, 31, 32, 33, 34, 35, 36, 37, 38] (by decide) rfl).self
  have hFc := va_free (wc := (fz_WC k q f pa v ++ ([(o, .inl (k 5, 1, .inr (.inl g)))]))) hD hS hA [0, 1, 2, 3, 4, 5, 6, 7, 8, 9, 10, 11, 12, 13, 14, 15, 16, 17, 18, 19, 20, 21, 22, 23, 24, 25, 26, 27, 28, 29, 30, 31, 32, 33, 34, 35, 36, 37, 38] rfl
  refine fz_hSi (As := [.ref (q 31), .int x1, .ref o]) (rest := []) S0 (h_takeOut l hl0 (va_A (fz_WC k q f pa v ++ ([(o, .inl (k 5, 1, .inr (.inl g)))])) H.size) D k q f pa v o g x1 g_v_1 g_f_4_0 g_f_18_0) (vx_cwSW 3 hts9 (fz_gSW fm_712 fm_893 fm_894 fm_816) rfl rfl rfl ⟨by decide, by decide, by decide +kernel⟩ ⟨Nat.le_of_ble_eq_true rfl, Nat.le_of_ble_eq_true rfl⟩) hFc (fun a9 h9 => Or.inr h9) hG hS hPc hK hDc rfl hl.1 rfl (Nat.le_of_ble_eq_true rfl) dL_law_1052 ⟨Nat.le_of_ble_eq_true rfl, Nat.le_of_ble_eq_true rfl⟩ (fun r_1 u_1 H locs hw hz1 hk1 hP1 hS => ?_)
  obtain ⟨hP, hD⟩ := va_join (wr := ([(o2, .inl (k 6, 1, .inr (.inr (.inr (.inl g2)))))] ++ (fz_WM k q2 f2 pa2 v2))) (w1 := ([(o, .inl (k 5, 1, .inr (.inl u_1)))])) hP hD [0, 1, 2, 3, 4, 5, 6, 7, 8, 9, 10, 11, 12, 13, 14, 15, 16, 17, 18, 19, 20, 21, 22, 23, 24, 25, 26, 27, 28, 29, 30, 31, 32, 33, 34, 35, 36, 37, 38] [39, 40, 41, 42, 43, 44, 45, 46, 47] rfl rfl (by decide) (by decide) hk1 hFc hP1 (fz_Dsame (hDc.sub (ws' := [(o, .inl (k 5, 1, .inr (.inl g)))]) [38] (by decide) rfl) rfl)
  have hP : va_P D vwCl ([(o2, .inl (k 6, 1, .inr (.inr (.inr (.inl g2)))))] ++ (fz_WM k q2 f2 pa2 v2 ++ ([(o, .inl (k 5, 1, .inr (.inl u_1)))]))) H := hP
  have hD : va_D (fun q : Nat => s.heap.size ≤ q) ([(o2, .inl (k 6, 1, .inr (.inr (.inr (.inl g2)))))] ++ (fz_WM k q2 f2 pa2 v2 ++ ([(o, .inl (k 5, 1, .inr (.inl u_1)))]))) := hD
  rcases hw with ⟨rfl, hc_1⟩ | ⟨rfl, hc_1⟩
  · skip
    refine lv_istore (lv' := [(6, .int 1), (5, .int 0), (4, .ref o2), (3, .ref o), (2, .ref (q2 0)), (1, .ref (q 31)), (0, .ref b)]) hx hb dL_law_1055 hl (by decide) rfl (fun ls hl => ?_)
    refine lv_aload_n hx hb dL_law_1057 rfl (lv_at hl 4 rfl) ?_
    refine lv_aload_n hx hb dL_law_1058 rfl (lv_at hl 6 rfl) ?_
    refine lv_iload hx hb dL_law_1059 (lv_at hl 1 rfl) ?_
    refine lv_iconst (v := 1) hx hb dL_law_1061 (by decide) ?_
    refine lv_iadd hx hb dL_law_1062 ?_
    refine fz_I (y := 1) (by decide) ?_
    refine va_sld hx hb hX hbl hbA hS (fz_vin (by decide)) dL_law_1063 ?_
    refine fz_I (y := x1) ex1.symm ?_
    have hPc := hP.sub (ws' := (fz_WM k q2 f2 pa2 v2)) [1, 2, 3, 4, 5, 6, 7, 8] rfl
    have hDc : va_D (va_A (fz_WM k q2 f2 pa2 v2) H.size) (fz_WM k q2 f2 pa2 v2) := (hD.sub (ws' := (fz_WM k q2 f2 pa2 v2)) [1, 2, 3, 4, 5, 6, 7, 8] (by decide) rfl).self
    have hFc := va_free (wc := (fz_WM k q2 f2 pa2 v2)) hD hS hA [1, 2, 3, 4, 5, 6, 7, 8] rfl
    refine fz_cVi (As := [.int x1]) (rest := []) S0 (m_p_takeOut l (va_A (fz_WM k q2 f2 pa2 v2) H.size) D k q2 f2 pa2 v2 x1 n_f_1_0 n_f_1_7 n_f_1_15) (fz_cwV (C := RX10) 1 hts9 fm_895 fm_896 fm_897 fm_898 fm_469 rfl rfl ⟨by decide, by decide, by decide +kernel⟩ ⟨Nat.le_of_ble_eq_true rfl, Nat.le_of_ble_eq_true rfl⟩) (va_recv hK hPc (ci := 14) (q0 := 0) rfl rfl) hFc (fun a9 h9 => Or.inr h9) hG hS hPc hK hDc rfl hl.1 rfl (Nat.le_of_ble_eq_true rfl) dL_law_1064 ⟨Nat.le_of_ble_eq_true rfl, Nat.le_of_ble_eq_true rfl⟩ (fun r_2 u_2 H locs hw hz1 hk1 hP1 hS => ?_)
    obtain ⟨hP, hD⟩ := va_join (wr := ([(o2, .inl (k 6, 1, .inr (.inr (.inr (.inl g2)))))] ++ ([(o, .inl (k 5, 1, .inr (.inl u_1)))]))) (w1 := (fz_MO q2 u_2)) hP hD [1, 2, 3, 4, 5, 6, 7, 8] [0, 9] rfl rfl (by decide) (by decide) hk1 hFc hP1 (fz_Dsame (hDc.sub (ws' := fz_MO q2 v2) [0] (by decide) rfl) rfl)
    have hP : va_P D vwCl ([(o2, .inl (k 6, 1, .inr (.inr (.inr (.inl g2)))))] ++ ([(o, .inl (k 5, 1, .inr (.inl u_1)))] ++ (fz_MO q2 u_2))) H := hP
    have hD : va_D (fun q : Nat => s.heap.size ≤ q) ([(o2, .inl (k 6, 1, .inr (.inr (.inr (.inl g2)))))] ++ ([(o, .inl (k 5, 1, .inr (.inl u_1)))] ++ (fz_MO q2 u_2))) := hD
    rcases hw with ⟨rfl, ht_2, hc_2⟩ | ⟨rfl, ht_2, hc_2⟩
    · skip
      refine lv_istore (lv' := [(7, .int 0), (6, .int 1), (5, .int 0), (4, .ref o2), (3, .ref o), (2, .ref (q2 0)), (1, .ref (q 31)), (0, .ref b)]) hx hb dL_law_1067 hl (by decide) rfl (fun ls hl => ?_)
      refine lv_aload_n hx hb dL_law_1069 rfl (lv_at hl 5 rfl) ?_
      have hPc := hP.sub (ws' := (fz_MO q2 u_2)) [2] rfl
      have hDc : va_D (va_A (fz_MO q2 u_2) H.size) (fz_MO q2 u_2) := (hD.sub (ws' := (fz_MO q2 u_2)) [2] (by decide) rfl).self
      have hFc := va_free (wc := (fz_MO q2 u_2)) hD hS hA [2] rfl
      refine fz_cVi (As := []) (rest := []) S0 (m_thrown l (va_A (fz_MO q2 u_2) H.size) D k q2 u_2) (fz_cwV (C := RX10) 0 hts9 fm_823 fm_824 fm_825 fm_826 fm_469 rfl rfl ⟨by decide, by decide, by decide +kernel⟩ ⟨Nat.le_of_ble_eq_true rfl, Nat.le_of_ble_eq_true rfl⟩) (va_recv hK hPc (ci := 14) (q0 := 0) rfl rfl) hFc (fun a9 h9 => Or.inr h9) hG hS hPc hK hDc rfl hl.1 rfl (Nat.le_of_ble_eq_true rfl) dL_law_1070 ⟨Nat.le_of_ble_eq_true rfl, Nat.le_of_ble_eq_true rfl⟩ (fun r_3 u_3 H locs hw hz1 hk1 hP1 hS => ?_)
      obtain ⟨hP, hD⟩ := va_join (wr := ([(o2, .inl (k 6, 1, .inr (.inr (.inr (.inl g2)))))] ++ ([(o, .inl (k 5, 1, .inr (.inl u_1)))]))) (w1 := (fz_MO q2 u_2)) hP hD [2] [0, 1] rfl rfl (by decide) (by decide) hk1 hFc hP1 hDc
      have hP : va_P D vwCl ([(o2, .inl (k 6, 1, .inr (.inr (.inr (.inl g2)))))] ++ ([(o, .inl (k 5, 1, .inr (.inl u_1)))] ++ (fz_MO q2 u_2))) H := hP
      have hD : va_D (fun q : Nat => s.heap.size ≤ q) ([(o2, .inl (k 6, 1, .inr (.inr (.inr (.inl g2)))))] ++ ([(o, .inl (k 5, 1, .inr (.inl u_1)))] ++ (fz_MO q2 u_2))) := hD
      obtain rfl : r_3 = u_2 0 := hw
      refine fz_I (y := 1) ht_2 ?_
      refine lv_iload hx hb dL_law_1073 (lv_at hl 1 rfl) ?_
      refine lv_icmp_eq (tgt := 1080) hx hb dL_law_1075 (by decide) (fun c9 => ?_) (fun c9 => absurd (by decide) c9)
      refine lv_iload hx hb dL_law_1080 (lv_at hl 1 rfl) ?_
      refine lv_if_ne (tgt := 1097) hx hb dL_law_1082 (by decide) (fun c9 => ?_) (fun c9 => absurd c9 (by decide))
      refine lv_goto (tgt := 2457) hx hb dL_law_1097 (by decide) ?_
      exact lw_tail hL C0 (Nat.le_of_ble_eq_true rfl) (Nat.le_of_ble_eq_true rfl) hS ls (lv_sub hl [2, 7] rfl)
    · skip
      exact (fq_136 x1 hc_1 hc_2).elim
  · skip
    obtain rfl : x1 = 0 := (fq_27 x1 hc_1)
    refine lv_istore (lv' := [(6, .int 2), (5, .int 0), (4, .ref o2), (3, .ref o), (2, .ref (q2 0)), (1, .ref (q 31)), (0, .ref b)]) hx hb dL_law_1055 hl (by decide) rfl (fun ls hl => ?_)
    refine lv_aload_n hx hb dL_law_1057 rfl (lv_at hl 4 rfl) ?_
    refine lv_aload_n hx hb dL_law_1058 rfl (lv_at hl 6 rfl) ?_
    refine lv_iload hx hb dL_law_1059 (lv_at hl 1 rfl) ?_
    refine lv_iconst (v := 1) hx hb dL_law_1061 (by decide) ?_
    refine lv_iadd hx hb dL_law_1062 ?_
    refine fz_I (y := 1) (by decide) ?_
    refine va_sld hx hb hX hbl hbA hS (fz_vin (by decide)) dL_law_1063 ?_
    refine fz_I (y := 0) ex1.symm ?_
    have hPc := hP.sub (ws' := (fz_WM k q2 f2 pa2 v2)) [1, 2, 3, 4, 5, 6, 7, 8] rfl
    have hDc : va_D (va_A (fz_WM k q2 f2 pa2 v2) H.size) (fz_WM k q2 f2 pa2 v2) := (hD.sub (ws' := (fz_WM k q2 f2 pa2 v2)) [1, 2, 3, 4, 5, 6, 7, 8] (by decide) rfl).self
    have hFc := va_free (wc := (fz_WM k q2 f2 pa2 v2)) hD hS hA [1, 2, 3, 4, 5, 6, 7, 8] rfl
    refine fz_cVi (As := [.int 0]) (rest := []) S0 (m_p_takeOut l (va_A (fz_WM k q2 f2 pa2 v2) H.size) D k q2 f2 pa2 v2 0 n_f_1_0 n_f_1_7 n_f_1_15) (fz_cwV (C := RX10) 1 hts9 fm_895 fm_896 fm_897 fm_898 fm_469 rfl rfl ⟨by decide, by decide, by decide +kernel⟩ ⟨Nat.le_of_ble_eq_true rfl, Nat.le_of_ble_eq_true rfl⟩) (va_recv hK hPc (ci := 14) (q0 := 0) rfl rfl) hFc (fun a9 h9 => Or.inr h9) hG hS hPc hK hDc rfl hl.1 rfl (Nat.le_of_ble_eq_true rfl) dL_law_1064 ⟨Nat.le_of_ble_eq_true rfl, Nat.le_of_ble_eq_true rfl⟩ (fun r_2 u_2 H locs hw hz1 hk1 hP1 hS => ?_)
    obtain ⟨hP, hD⟩ := va_join (wr := ([(o2, .inl (k 6, 1, .inr (.inr (.inr (.inl g2)))))] ++ ([(o, .inl (k 5, 1, .inr (.inl u_1)))]))) (w1 := (fz_MO q2 u_2)) hP hD [1, 2, 3, 4, 5, 6, 7, 8] [0, 9] rfl rfl (by decide) (by decide) hk1 hFc hP1 (fz_Dsame (hDc.sub (ws' := fz_MO q2 v2) [0] (by decide) rfl) rfl)
    have hP : va_P D vwCl ([(o2, .inl (k 6, 1, .inr (.inr (.inr (.inl g2)))))] ++ ([(o, .inl (k 5, 1, .inr (.inl u_1)))] ++ (fz_MO q2 u_2))) H := hP
    have hD : va_D (fun q : Nat => s.heap.size ≤ q) ([(o2, .inl (k 6, 1, .inr (.inr (.inr (.inl g2)))))] ++ ([(o, .inl (k 5, 1, .inr (.inl u_1)))] ++ (fz_MO q2 u_2))) := hD
    rcases hw with ⟨rfl, ht_2, hc_2⟩ | ⟨rfl, ht_2, hc_2⟩
    · skip
      exact (fq_112 hc_2).elim
    · skip
      refine lv_istore (lv' := [(7, .int 0), (6, .int 2), (5, .int 0), (4, .ref o2), (3, .ref o), (2, .ref (q2 0)), (1, .ref (q 31)), (0, .ref b)]) hx hb dL_law_1067 hl (by decide) rfl (fun ls hl => ?_)
      refine lv_aload_n hx hb dL_law_1069 rfl (lv_at hl 5 rfl) ?_
      have hPc := hP.sub (ws' := (fz_MO q2 u_2)) [2] rfl
      have hDc : va_D (va_A (fz_MO q2 u_2) H.size) (fz_MO q2 u_2) := (hD.sub (ws' := (fz_MO q2 u_2)) [2] (by decide) rfl).self
      have hFc := va_free (wc := (fz_MO q2 u_2)) hD hS hA [2] rfl
      refine fz_cVi (As := []) (rest := []) S0 (m_thrown l (va_A (fz_MO q2 u_2) H.size) D k q2 u_2) (fz_cwV (C := RX10) 0 hts9 fm_823 fm_824 fm_825 fm_826 fm_469 rfl rfl ⟨by decide, by decide, by decide +kernel⟩ ⟨Nat.le_of_ble_eq_true rfl, Nat.le_of_ble_eq_true rfl⟩) (va_recv hK hPc (ci := 14) (q0 := 0) rfl rfl) hFc (fun a9 h9 => Or.inr h9) hG hS hPc hK hDc rfl hl.1 rfl (Nat.le_of_ble_eq_true rfl) dL_law_1070 ⟨Nat.le_of_ble_eq_true rfl, Nat.le_of_ble_eq_true rfl⟩ (fun r_3 u_3 H locs hw hz1 hk1 hP1 hS => ?_)
      obtain ⟨hP, hD⟩ := va_join (wr := ([(o2, .inl (k 6, 1, .inr (.inr (.inr (.inl g2)))))] ++ ([(o, .inl (k 5, 1, .inr (.inl u_1)))]))) (w1 := (fz_MO q2 u_2)) hP hD [2] [0, 1] rfl rfl (by decide) (by decide) hk1 hFc hP1 hDc
      have hP : va_P D vwCl ([(o2, .inl (k 6, 1, .inr (.inr (.inr (.inl g2)))))] ++ ([(o, .inl (k 5, 1, .inr (.inl u_1)))] ++ (fz_MO q2 u_2))) H := hP
      have hD : va_D (fun q : Nat => s.heap.size ≤ q) ([(o2, .inl (k 6, 1, .inr (.inr (.inr (.inl g2)))))] ++ ([(o, .inl (k 5, 1, .inr (.inl u_1)))] ++ (fz_MO q2 u_2))) := hD
      obtain rfl : r_3 = u_2 0 := hw
      refine fz_I (y := 2) ht_2 ?_
      refine lv_iload hx hb dL_law_1073 (lv_at hl 1 rfl) ?_
      refine lv_icmp_eq (tgt := 1080) hx hb dL_law_1075 (by decide) (fun c9 => ?_) (fun c9 => absurd (by decide) c9)
      refine lv_iload hx hb dL_law_1080 (lv_at hl 1 rfl) ?_
      refine lv_if_ne (tgt := 1097) hx hb dL_law_1082 (by decide) (fun c9 => ?_) (fun c9 => absurd c9 (by decide))
      refine lv_goto (tgt := 2457) hx hb dL_law_1097 (by decide) ?_
      exact lw_tail hL C0 (Nat.le_of_ble_eq_true rfl) (Nat.le_of_ble_eq_true rfl) hS ls (lv_sub hl [2, 7] rfl)

set_option maxHeartbeats 8000000 in
set_option maxRecDepth 100000 in
theorem lw_case13 {p : Program} {l : Launch} {e : Env} {s : State} {m : MethodId} {below : List Frame} {meth : Method} {c : Code} {D : va_G} {b L : Nat} {xs : Nat → Int32} (hl0 : l.stackTraces = false) (hL : L = 6) (C0 : lw_At p s m meth c b L xs) (hG : fz_GS (fun q : Nat => s.heap.size ≤ q) s) (k : Nat → ClassId) (hK : va_K D vwCl (fz_tys k) s) (q q2 : Nat → Nat) (f f2 : Nat → Nat → Int32) (pa pa2 : Nat → Option Nat) (v v2 : Nat → Int32) (o o2 : Nat) (g : Nat → Int64) (g2 : Nat → UInt64) (hF : fz_LF q2 f pa v f2 pa2 v2) (H : Heap) (locs : List Loc) (hP : va_P D vwCl (fz_WC k q f pa v ++ ([(o, .inl (k 5, 1, .inr (.inl g)))] ++ ([(o2, .inl (k 6, 1, .inr (.inr (.inr (.inl g2)))))] ++ (fz_WM k q2 f2 pa2 v2)))) H) (hD : va_D (fun q : Nat => s.heap.size ≤ q) (fz_WC k q f pa v ++ ([(o, .inl (k 5, 1, .inr (.inl g)))] ++ ([(o2, .inl (k 6, 1, .inr (.inr (.inr (.inl g2)))))] ++ (fz_WM k q2 f2 pa2 v2))))) (hS : va_S (fun q : Nat => s.heap.size ≤ q) s.heap H locs) (ls : Array Slot) (hl : lv_has ls 9 [(5, .int 0), (4, .ref o2), (3, .ref o), (2, .ref (q2 0)), (1, .ref (q 31)), (0, .ref b)]) :
    W p l e room_1 s m #[Value.ref b] below meth c H locs 2000 400000 (lw_Z below #[Value.ref b] s) (F0 m 1100 ls []) := by
  obtain ⟨g_v_0, g_v_1, g_v_2, g_v_3, g_v_4, g_v_5, g_v_6, g_v_7, g_v_8, g_v_9, g_v_10, g_v_11, g_v_12, g_v_13, g_v_14, g_v_15, g_v_17, g_f_2_0, g_f_4_0, g_f_5_0, g_f_6_0, g_f_7_0, g_f_8_0, g_f_9_0, g_f_11_0, g_f_18_0, g_f_19_0, g_pa_0, g_pa_1, g_pa_8, n_v_0, n_v_5, n_v_6, n_v_7, n_v_8, n_v_9, n_v_10, n_v_11, n_v_12, n_v_13, n_v_15, n_v_16, n_v_17, n_v_18, n_v_19, n_v_21, n_f_1_0, n_f_1_1, n_f_1_2, n_f_1_3, n_f_1_4, n_f_1_5, n_f_1_6, n_f_1_7, n_f_1_8, n_f_1_9, n_f_1_10, n_f_1_11, n_f_1_12, n_f_1_13, n_f_1_15, n_f_1_16, n_f_1_17, n_pb_0⟩ := hF
  obtain ⟨hx, hb, hr, hml, hown, hts, hX, hbl, hlocks, hgv⟩ := id C0
  subst hL
  have hL : (6 : Nat) = 6 := rfl
  have hA : ∀ q : Nat, s.heap.size ≤ q → (fun q : Nat => s.heap.size ≤ q) q := fun _ h => h
  have hbA : ¬ (fun q : Nat => s.heap.size ≤ q) b := Nat.not_le.mpr hbl
  have hts9 := fz_hts9 hts
  have hown : s.vm.findClass RL = some m.cls := hown
  have S0 : CallFix p m c code 9 s #[Value.ref b] (Cond.initialized RL :: fz_WA) RL := ⟨hx, hb, hml, hown, hts9⟩
  obtain ⟨x1, ex1⟩ : ∃ z, z = xs 1 := ⟨_, rfl⟩
  obtain ⟨x2, ex2⟩ : ∃ z, z = xs 2 := ⟨_, rfl⟩
  obtain ⟨x3, ex3⟩ : ∃ z, z = xs 3 := ⟨_, rfl⟩
  obtain ⟨x4, ex4⟩ : ∃ z, z = xs 4 := ⟨_, rfl⟩
  obtain ⟨x5, ex5⟩ : ∃ z, z = xs 5 := ⟨_, rfl⟩
  refine lv_aload_n hx hb dL_law_1100 rfl (lv_at hl 4 rfl) ?_
  refine lv_aload_n hx hb dL_law_1101 rfl (lv_at hl 5 rfl) ?_
  refine lv_iload hx hb dL_law_1102 (lv_at hl 0 rfl) ?_
  refine lv_iconst (v := 1) hx hb dL_law_1104 (by decide) ?_
  refine lv_iadd hx hb dL_law_1105 ?_
  refine fz_I (y := 1) (by decide) ?_
  refine va_sld hx hb hX hbl hbA hS (fz_vin (by decide)) dL_law_1106 ?_
  refine fz_I (y := x1) ex1.symm ?_
  refine lv_aload_n hx hb dL_law_1107 rfl (lv_at hl 5 rfl) ?_
  refine lv_iload hx hb dL_law_1108 (lv_at hl 0 rfl) ?_
  refine lv_iconst (v := 2) hx hb dL_law_1110 (by decide) ?_
  refine lv_iadd hx hb dL_law_1111 ?_
  refine fz_I (y := 2) (by decide) ?_
  refine va_sld hx hb hX hbl hbA hS (fz_vin (by decide)) dL_law_1112 ?_
  refine fz_I (y := x2) ex2.symm ?_
  refine lv_aload_n hx hb dL_law_1113 rfl (lv_at hl 5 rfl) ?_
  refine lv_iload hx hb dL_law_1114 (lv_at hl 0 rfl) ?_
  refine lv_iconst (v := 3) hx hb dL_law_1116 (by decide) ?_
  refine lv_iadd hx hb dL_law_1117 ?_
  refine fz_I (y := 3) (by decide) ?_
  refine va_sld hx hb hX hbl hbA hS (fz_vin (by decide)) dL_law_1118 ?_
  refine fz_I (y := x3) ex3.symm ?_
  refine lv_aload_n hx hb dL_law_1119 rfl (lv_at hl 2 rfl) ?_
  have hPc := hP.sub (ws' := (fz_WC k q f pa v ++ ([(o, .inl (k 5, 1, .inr (.inl g)))]))) [0, 1, 2, 3, 4, 5, 6, 7, 8, 9, 10, 11, 12, 13, 14, 15, 16, 17, 18, 19, 20, 21, 22, 23, 24, 25, 26, 27, 28, 29, 30, 31, 32, 33, 34, 35, 36, 37, 38] rfl
  have hDc : va_D (va_A (fz_WC k q f pa v ++ ([(o, .inl (k 5, 1, .inr (.inl g)))])) H.size) (fz_WC k q f pa v ++ ([(o, .inl (k 5, 1, .inr (.inl g)))])) := (hD.sub (ws' := (fz_WC k q f pa v ++ ([(o, .inl (k 5, 1, .inr (.inl g)))]))) [0, 1, 2, 3, 4, 5, 6, 7, 8, 9, 10, 11, 12, 13, 14, 15, 16, 17, 18, 19, 20, 21, 22, 23, 24, 25, 26, 27, 28, 29, 30, 31, 32, 33, 34, 35, 36, 37, 38] (by decide) rfl).self
  have hFc := va_free (wc := (fz_WC k q f pa v ++ ([(o, .inl (k 5, 1, .inr (.inl g)))]))) hD hS hA [0, 1, 2, 3, 4, 5, 6, 7, 8, 9, 10, 11, 12, 13, 14, 15, 16, 17, 18, 19, 20, 21, 22, 23, 24, 25, 26, 27, 28, 29, 30, 31, 32, 33, 34, 35, 36, 37, 38] rfl
  refine fz_hSi (As := [.ref (q 31), .int x1, .int x2, .int x3, .ref o]) (rest := []) S0 (h_split l hl0 (va_A (fz_WC k q f pa v ++ ([(o, .inl (k 5, 1, .inr (.inl g)))])) H.size) D k q f pa v o g x1 x2 x3 g_v_3) (vx_cwSW 5 hts9 (fz_gSW fm_719 fm_899 fm_900 fm_816) rfl rfl rfl ⟨by decide, by decide, by decide +kernel⟩ ⟨Nat.le_of_ble_eq_true rfl, Nat.le_of_ble_eq_true rfl⟩) hFc (fun a9 h9 => Or.inr h9) hG hS hPc hK hDc rfl hl.1 rfl (Nat.le_of_ble_eq_true rfl) dL_law_1120 ⟨Nat.le_of_ble_eq_true rfl, Nat.le_of_ble_eq_true rfl⟩ (fun r_1 u_1 H locs hw hz1 hk1 hP1 hS => ?_)
  obtain ⟨hP, hD⟩ := va_join (wr := ([(o2, .inl (k 6, 1, .inr (.inr (.inr (.inl g2)))))] ++ (fz_WM k q2 f2 pa2 v2))) (w1 := ([(o, .inl (k 5, 1, .inr (.inl u_1)))])) hP hD [0, 1, 2, 3, 4, 5, 6, 7, 8, 9, 10, 11, 12, 13, 14, 15, 16, 17, 18, 19, 20, 21, 22, 23, 24, 25, 26, 27, 28, 29, 30, 31, 32, 33, 34, 35, 36, 37, 38] [39, 40, 41, 42, 43, 44, 45, 46, 47] rfl rfl (by decide) (by decide) hk1 hFc hP1 (fz_Dsame (hDc.sub (ws' := [(o, .inl (k 5, 1, .inr (.inl g)))]) [38] (by decide) rfl) rfl)
  have hP : va_P D vwCl ([(o2, .inl (k 6, 1, .inr (.inr (.inr (.inl g2)))))] ++ (fz_WM k q2 f2 pa2 v2 ++ ([(o, .inl (k 5, 1, .inr (.inl u_1)))]))) H := hP
  have hD : va_D (fun q : Nat => s.heap.size ≤ q) ([(o2, .inl (k 6, 1, .inr (.inr (.inr (.inl g2)))))] ++ (fz_WM k q2 f2 pa2 v2 ++ ([(o, .inl (k 5, 1, .inr (.inl u_1)))]))) := hD
  rcases hw with ⟨rfl, hc_1⟩
  · skip
    refine lv_istore (lv' := [(6, .int 1), (5, .int 0), (4, .ref o2), (3, .ref o), (2, .ref (q2 0)), (1, .ref (q 31)), (0, .ref b)]) hx hb dL_law_1123 hl (by decide) rfl (fun ls hl => ?_)
    refine lv_aload_n hx hb dL_law_1125 rfl (lv_at hl 4 rfl) ?_
    refine lv_aload_n hx hb dL_law_1126 rfl (lv_at hl 6 rfl) ?_
    refine lv_iload hx hb dL_law_1127 (lv_at hl 1 rfl) ?_
    refine lv_iconst (v := 1) hx hb dL_law_1129 (by decide) ?_
    refine lv_iadd hx hb dL_law_1130 ?_
    refine fz_I (y := 1) (by decide) ?_
    refine va_sld hx hb hX hbl hbA hS (fz_vin (by decide)) dL_law_1131 ?_
    refine fz_I (y := x1) ex1.symm ?_
    refine lv_aload_n hx hb dL_law_1132 rfl (lv_at hl 6 rfl) ?_
    refine lv_iload hx hb dL_law_1133 (lv_at hl 1 rfl) ?_
    refine lv_iconst (v := 2) hx hb dL_law_1135 (by decide) ?_
    refine lv_iadd hx hb dL_law_1136 ?_
    refine fz_I (y := 2) (by decide) ?_
    refine va_sld hx hb hX hbl hbA hS (fz_vin (by decide)) dL_law_1137 ?_
    refine fz_I (y := x2) ex2.symm ?_
    refine lv_aload_n hx hb dL_law_1138 rfl (lv_at hl 6 rfl) ?_
    refine lv_iload hx hb dL_law_1139 (lv_at hl 1 rfl) ?_
    refine lv_iconst (v := 3) hx hb dL_law_1141 (by decide) ?_
    refine lv_iadd hx hb dL_law_1142 ?_
    refine fz_I (y := 3) (by decide) ?_
    refine va_sld hx hb hX hbl hbA hS (fz_vin (by decide)) dL_law_1143 ?_
    refine fz_I (y := x3) ex3.symm ?_
    have hPc := hP.sub (ws' := (fz_WM k q2 f2 pa2 v2)) [1, 2, 3, 4, 5, 6, 7, 8] rfl
    have hDc : va_D (va_A (fz_WM k q2 f2 pa2 v2) H.size) (fz_WM k q2 f2 pa2 v2) := (hD.sub (ws' := (fz_WM k q2 f2 pa2 v2)) [1, 2, 3, 4, 5, 6, 7, 8] (by decide) rfl).self
    have hFc := va_free (wc := (fz_WM k q2 f2 pa2 v2)) hD hS hA [1, 2, 3, 4, 5, 6, 7, 8] rfl
    refine fz_cVi (As := [.int x1, .int x2, .int x3]) (rest := []) S0 (m_p_split l (va_A (fz_WM k q2 f2 pa2 v2) H.size) D k q2 f2 pa2 v2 x1 x2 x3 n_f_1_2) (fz_cwV (C := RX10) 3 hts9 fm_901 fm_902 fm_903 fm_904 fm_469 rfl rfl ⟨by decide, by decide, by decide +kernel⟩ ⟨Nat.le_of_ble_eq_true rfl, Nat.le_of_ble_eq_true rfl⟩) (va_recv hK hPc (ci := 14) (q0 := 0) rfl rfl) hFc (fun a9 h9 => Or.inr h9) hG hS hPc hK hDc rfl hl.1 rfl (Nat.le_of_ble_eq_true rfl) dL_law_1144 ⟨Nat.le_of_ble_eq_true rfl, Nat.le_of_ble_eq_true rfl⟩ (fun r_2 u_2 H locs hw hz1 hk1 hP1 hS => ?_)
    obtain ⟨hP, hD⟩ := va_join (wr := ([(o2, .inl (k 6, 1, .inr (.inr (.inr (.inl g2)))))] ++ ([(o, .inl (k 5, 1, .inr (.inl u_1)))]))) (w1 := (fz_MO q2 u_2)) hP hD [1, 2, 3, 4, 5, 6, 7, 8] [0, 9] rfl rfl (by decide) (by decide) hk1 hFc hP1 (fz_Dsame (hDc.sub (ws' := fz_MO q2 v2) [0] (by decide) rfl) rfl)
    have hP : va_P D vwCl ([(o2, .inl (k 6, 1, .inr (.inr (.inr (.inl g2)))))] ++ ([(o, .inl (k 5, 1, .inr (.inl u_1)))] ++ (fz_MO q2 u_2))) H := hP
    have hD : va_D (fun q : Nat => s.heap.size ≤ q) ([(o2, .inl (k 6, 1, .inr (.inr (.inr (.inl g2)))))] ++ ([(o, .inl (k 5, 1, .inr (.inl u_1)))] ++ (fz_MO q2 u_2))) := hD
    rcases hw with ⟨rfl, ht_2, hc_2⟩
    · skip
      refine lv_istore (lv' := [(7, .int 0), (6, .int 1), (5, .int 0), (4, .ref o2), (3, .ref o), (2, .ref (q2 0)), (1, .ref (q 31)), (0, .ref b)]) hx hb dL_law_1147 hl (by decide) rfl (fun ls hl => ?_)
      refine lv_aload_n hx hb dL_law_1149 rfl (lv_at hl 5 rfl) ?_
      have hPc := hP.sub (ws' := (fz_MO q2 u_2)) [2] rfl
      have hDc : va_D (va_A (fz_MO q2 u_2) H.size) (fz_MO q2 u_2) := (hD.sub (ws' := (fz_MO q2 u_2)) [2] (by decide) rfl).self
      have hFc := va_free (wc := (fz_MO q2 u_2)) hD hS hA [2] rfl
      refine fz_cVi (As := []) (rest := []) S0 (m_thrown l (va_A (fz_MO q2 u_2) H.size) D k q2 u_2) (fz_cwV (C := RX10) 0 hts9 fm_823 fm_824 fm_825 fm_826 fm_469 rfl rfl ⟨by decide, by decide, by decide +kernel⟩ ⟨Nat.le_of_ble_eq_true rfl, Nat.le_of_ble_eq_true rfl⟩) (va_recv hK hPc (ci := 14) (q0 := 0) rfl rfl) hFc (fun a9 h9 => Or.inr h9) hG hS hPc hK hDc rfl hl.1 rfl (Nat.le_of_ble_eq_true rfl) dL_law_1150 ⟨Nat.le_of_ble_eq_true rfl, Nat.le_of_ble_eq_true rfl⟩ (fun r_3 u_3 H locs hw hz1 hk1 hP1 hS => ?_)
      obtain ⟨hP, hD⟩ := va_join (wr := ([(o2, .inl (k 6, 1, .inr (.inr (.inr (.inl g2)))))] ++ ([(o, .inl (k 5, 1, .inr (.inl u_1)))]))) (w1 := (fz_MO q2 u_2)) hP hD [2] [0, 1] rfl rfl (by decide) (by decide) hk1 hFc hP1 hDc
      have hP : va_P D vwCl ([(o2, .inl (k 6, 1, .inr (.inr (.inr (.inl g2)))))] ++ ([(o, .inl (k 5, 1, .inr (.inl u_1)))] ++ (fz_MO q2 u_2))) H := hP
      have hD : va_D (fun q : Nat => s.heap.size ≤ q) ([(o2, .inl (k 6, 1, .inr (.inr (.inr (.inl g2)))))] ++ ([(o, .inl (k 5, 1, .inr (.inl u_1)))] ++ (fz_MO q2 u_2))) := hD
      obtain rfl : r_3 = u_2 0 := hw
      refine fz_I (y := 1) ht_2 ?_
      refine lv_iload hx hb dL_law_1153 (lv_at hl 1 rfl) ?_
      refine lv_icmp_eq (tgt := 1160) hx hb dL_law_1155 (by decide) (fun c9 => ?_) (fun c9 => absurd (by decide) c9)
      refine lv_iload hx hb dL_law_1160 (lv_at hl 1 rfl) ?_
      refine lv_if_ne (tgt := 1177) hx hb dL_law_1162 (by decide) (fun c9 => ?_) (fun c9 => absurd c9 (by decide))
      refine lv_goto (tgt := 2457) hx hb dL_law_1177 (by decide) ?_
      exact lw_tail hL C0 (Nat.le_of_ble_eq_true rfl) (Nat.le_of_ble_eq_true rfl) hS ls (lv_sub hl [2, 7] rfl)

set_option maxHeartbeats 8000000 in
set_option maxRecDepth 100000 in
theorem lw_case14 {p : Program} {l : Launch} {e : Env} {s : State} {m : MethodId} {below : List Frame} {meth : Method} {c : Code} {D : va_G} {b L : Nat} {xs : Nat → Int32} (hl0 : l.stackTraces = false) (hL : L = 6) (C0 : lw_At p s m meth c b L xs) (hG : fz_GS (fun q : Nat => s.heap.size ≤ q) s) (k : Nat → ClassId) (hK : va_K D vwCl (fz_tys k) s) (q q2 : Nat → Nat) (f f2 : Nat → Nat → Int32) (pa pa2 : Nat → Option Nat) (v v2 : Nat → Int32) (o o2 : Nat) (g : Nat → Int64) (g2 : Nat → UInt64) (hF : fz_LF q2 f pa v f2 pa2 v2) (H : Heap) (locs : List Loc) (hP : va_P D vwCl (fz_WC k q f pa v ++ ([(o, .inl (k 5, 1, .inr (.inl g)))] ++ ([(o2, .inl (k 6, 1, .inr (.inr (.inr (.inl g2)))))] ++ (fz_WM k q2 f2 pa2 v2)))) H) (hD : va_D (fun q : Nat => s.heap.size ≤ q) (fz_WC k q f pa v ++ ([(o, .inl (k 5, 1, .inr (.inl g)))] ++ ([(o2, .inl (k 6, 1, .inr (.inr (.inr (.inl g2)))))] ++ (fz_WM k q2 f2 pa2 v2))))) (hS : va_S (fun q : Nat => s.heap.size ≤ q) s.heap H locs) (ls : Array Slot) (hl : lv_has ls 9 [(5, .int 0), (4, .ref o2), (3, .ref o), (2, .ref (q2 0)), (1, .ref (q 31)), (0, .ref b)]) :
    W p l e room_1 s m #[Value.ref b] below meth c H locs 2000 400000 (lw_Z below #[Value.ref b] s) (F0 m 1180 ls []) := by
  obtain ⟨g_v_0, g_v_1, g_v_2, g_v_3, g_v_4, g_v_5, g_v_6, g_v_7, g_v_8, g_v_9, g_v_10, g_v_11, g_v_12, g_v_13, g_v_14, g_v_15, g_v_17, g_f_2_0, g_f_4_0, g_f_5_0, g_f_6_0, g_f_7_0, g_f_8_0, g_f_9_0, g_f_11_0, g_f_18_0, g_f_19_0, g_pa_0, g_pa_1, g_pa_8, n_v_0, n_v_5, n_v_6, n_v_7, n_v_8, n_v_9, n_v_10, n_v_11, n_v_12, n_v_13, n_v_15, n_v_16, n_v_17, n_v_18, n_v_19, n_v_21, n_f_1_0, n_f_1_1, n_f_1_2, n_f_1_3, n_f_1_4, n_f_1_5, n_f_1_6, n_f_1_7, n_f_1_8, n_f_1_9, n_f_1_10, n_f_1_11, n_f_1_12, n_f_1_13, n_f_1_15, n_f_1_16, n_f_1_17, n_pb_0⟩ := hF
  obtain ⟨hx, hb, hr, hml, hown, hts, hX, hbl, hlocks, hgv⟩ := id C0
  subst hL
  have hL : (6 : Nat) = 6 := rfl
  have hA : ∀ q : Nat, s.heap.size ≤ q → (fun q : Nat => s.heap.size ≤ q) q := fun _ h => h
  have hbA : ¬ (fun q : Nat => s.heap.size ≤ q) b := Nat.not_le.mpr hbl
  have hts9 := fz_hts9 hts
  have hown : s.vm.findClass RL = some m.cls := hown
  have S0 : CallFix p m c code 9 s #[Value.ref b] (Cond.initialized RL :: fz_WA) RL := ⟨hx, hb, hml, hown, hts9⟩
  obtain ⟨x1, ex1⟩ : ∃ z, z = xs 1 := ⟨_, rfl⟩
  obtain ⟨x2, ex2⟩ : ∃ z, z = xs 2 := ⟨_, rfl⟩
  obtain ⟨x3, ex3⟩ : ∃ z, z = xs 3 := ⟨_, rfl⟩
  obtain ⟨x4, ex4⟩ : ∃ z, z = xs 4 := ⟨_, rfl⟩
  obtain ⟨x5, ex5⟩ : ∃ z, z = xs 5 := ⟨_, rfl⟩
  refine lv_aload_n hx hb dL_law_1180 rfl (lv_at hl 4 rfl) ?_
  refine lv_aload_n hx hb dL_law_1181 rfl (lv_at hl 5 rfl) ?_
  refine lv_iload hx hb dL_law_1182 (lv_at hl 0 rfl) ?_
  refine lv_iconst (v := 1) hx hb dL_law_1184 (by decide) ?_
  refine lv_iadd hx hb dL_law_1185 ?_
  refine fz_I (y := 1) (by decide) ?_
  refine va_sld hx hb hX hbl hbA hS (fz_vin (by decide)) dL_law_1186 ?_
  refine fz_I (y := x1) ex1.symm ?_
  refine lv_aload_n hx hb dL_law_1187 rfl (lv_at hl 5 rfl) ?_
  refine lv_iload hx hb dL_law_1188 (lv_at hl 0 rfl) ?_
  refine lv_iconst (v := 2) hx hb dL_law_1190 (by decide) ?_
  refine lv_iadd hx hb dL_law_1191 ?_
  refine fz_I (y := 2) (by decide) ?_
  refine va_sld hx hb hX hbl hbA hS (fz_vin (by decide)) dL_law_1192 ?_
  refine fz_I (y := x2) ex2.symm ?_
  refine lv_aload_n hx hb dL_law_1193 rfl (lv_at hl 2 rfl) ?_
  have hPc := hP.sub (ws' := (fz_WC k q f pa v ++ ([(o, .inl (k 5, 1, .inr (.inl g)))]))) [0, 1, 2, 3, 4, 5, 6, 7, 8, 9, 10, 11, 12, 13, 14, 15, 16, 17, 18, 19, 20, 21, 22, 23, 24, 25, 26, 27, 28, 29, 30, 31, 32, 33, 34, 35, 36, 37, 38] rfl
  have hDc : va_D (va_A (fz_WC k q f pa v ++ ([(o, .inl (k 5, 1, .inr (.inl g)))])) H.size) (fz_WC k q f pa v ++ ([(o, .inl (k 5, 1, .inr (.inl g)))])) := (hD.sub (ws' := (fz_WC k q f pa v ++ ([(o, .inl (k 5, 1, .inr (.inl g)))]))) [0, 1, 2, 3, 4, 5, 6, 7, 8, 9, 10, 11, 12, 13, 14, 15, 16, 17, 18, 19, 20, 21, 22, 23, 24, 25, 26, 27, 28, 29, 30, 31, 32, 33, 34, 35, 36, 37, 38] (by decide) rfl).self
  have hFc := va_free (wc := (fz_WC k q f pa v ++ ([(o, .inl (k 5, 1, .inr (.inl g)))]))) hD hS hA [0, 1, 2, 3, 4, 5, 6, 7, 8, 9, 10, 11, 12, 13, 14, 15, 16, 17, 18, 19, 20, 21, 22, 23, 24, 25, 26, 27, 28, 29, 30, 31, 32, 33, 34, 35, 36, 37, 38] rfl
  refine fz_hSi (As := [.ref (q 31), .int x1, .int x2, .ref o]) (rest := []) S0 (h_merge l hl0 (va_A (fz_WC k q f pa v ++ ([(o, .inl (k 5, 1, .inr (.inl g)))])) H.size) D k q f pa v o g x1 x2 g_v_3) (vx_cwSW 4 hts9 (fz_gSW fm_724 fm_905 fm_906 fm_816) rfl rfl rfl ⟨by decide, by decide, by decide +kernel⟩ ⟨Nat.le_of_ble_eq_true rfl, Nat.le_of_ble_eq_true rfl⟩) hFc (fun a9 h9 => Or.inr h9) hG hS hPc hK hDc rfl hl.1 rfl (Nat.le_of_ble_eq_true rfl) dL_law_1194 ⟨Nat.le_of_ble_eq_true rfl, Nat.le_of_ble_eq_true rfl⟩ (fun r_1 u_1 H locs hw hz1 hk1 hP1 hS => ?_)
  obtain ⟨hP, hD⟩ := va_join (wr := ([(o2, .inl (k 6, 1, .inr (.inr (.inr (.inl g2)))))] ++ (fz_WM k q2 f2 pa2 v2))) (w1 := ([(o, .inl (k 5, 1, .inr (.inl u_1)))])) hP hD [0, 1, 2, 3, 4, 5, 6, 7, 8, 9, 10, 11, 12, 13, 14, 15, 16, 17, 18, 19, 20, 21, 22, 23, 24, 25, 26, 27, 28, 29, 30, 31, 32, 33, 34, 35, 36, 37, 38] [39, 40, 41, 42, 43, 44, 45, 46, 47] rfl rfl (by decide) (by decide) hk1 hFc hP1 (fz_Dsame (hDc.sub (ws' := [(o, .inl (k 5, 1, .inr (.inl g)))]) [38] (by decide) rfl) rfl)
  have hP : va_P D vwCl ([(o2, .inl (k 6, 1, .inr (.inr (.inr (.inl g2)))))] ++ (fz_WM k q2 f2 pa2 v2 ++ ([(o, .inl (k 5, 1, .inr (.inl u_1)))]))) H := hP
  have hD : va_D (fun q : Nat => s.heap.size ≤ q) ([(o2, .inl (k 6, 1, .inr (.inr (.inr (.inl g2)))))] ++ (fz_WM k q2 f2 pa2 v2 ++ ([(o, .inl (k 5, 1, .inr (.inl u_1)))]))) := hD
  rcases hw with ⟨rfl, hc_1⟩
  · skip
    refine lv_istore (lv' := [(6, .int 1), (5, .int 0), (4, .ref o2), (3, .ref o), (2, .ref (q2 0)), (1, .ref (q 31)), (0, .ref b)]) hx hb dL_law_1197 hl (by decide) rfl (fun ls hl => ?_)
    refine lv_aload_n hx hb dL_law_1199 rfl (lv_at hl 4 rfl) ?_
    refine lv_aload_n hx hb dL_law_1200 rfl (lv_at hl 6 rfl) ?_
    refine lv_iload hx hb dL_law_1201 (lv_at hl 1 rfl) ?_
    refine lv_iconst (v := 1) hx hb dL_law_1203 (by decide) ?_
    refine lv_iadd hx hb dL_law_1204 ?_
    refine fz_I (y := 1) (by decide) ?_
    refine va_sld hx hb hX hbl hbA hS (fz_vin (by decide)) dL_law_1205 ?_
    refine fz_I (y := x1) ex1.symm ?_
    refine lv_aload_n hx hb dL_law_1206 rfl (lv_at hl 6 rfl) ?_
    refine lv_iload hx hb dL_law_1207 (lv_at hl 1 rfl) ?_
    refine lv_iconst (v := 2) hx hb dL_law_1209 (by decide) ?_
    refine lv_iadd hx hb dL_law_1210 ?_
    refine fz_I (y := 2) (by decide) ?_
    refine va_sld hx hb hX hbl hbA hS (fz_vin (by decide)) dL_law_1211 ?_
    refine fz_I (y := x2) ex2.symm ?_
    have hPc := hP.sub (ws' := (fz_WM k q2 f2 pa2 v2)) [1, 2, 3, 4, 5, 6, 7, 8] rfl
    have hDc : va_D (va_A (fz_WM k q2 f2 pa2 v2) H.size) (fz_WM k q2 f2 pa2 v2) := (hD.sub (ws' := (fz_WM k q2 f2 pa2 v2)) [1, 2, 3, 4, 5, 6, 7, 8] (by decide) rfl).self
    have hFc := va_free (wc := (fz_WM k q2 f2 pa2 v2)) hD hS hA [1, 2, 3, 4, 5, 6, 7, 8] rfl
    refine fz_cVi (As := [.int x1, .int x2]) (rest := []) S0 (m_p_merge l (va_A (fz_WM k q2 f2 pa2 v2) H.size) D k q2 f2 pa2 v2 x1 x2 n_f_1_2) (fz_cwV (C := RX10) 2 hts9 fm_907 fm_908 fm_909 fm_910 fm_469 rfl rfl ⟨by decide, by decide, by decide +kernel⟩ ⟨Nat.le_of_ble_eq_true rfl, Nat.le_of_ble_eq_true rfl⟩) (va_recv hK hPc (ci := 14) (q0 := 0) rfl rfl) hFc (fun a9 h9 => Or.inr h9) hG hS hPc hK hDc rfl hl.1 rfl (Nat.le_of_ble_eq_true rfl) dL_law_1212 ⟨Nat.le_of_ble_eq_true rfl, Nat.le_of_ble_eq_true rfl⟩ (fun r_2 u_2 H locs hw hz1 hk1 hP1 hS => ?_)
    obtain ⟨hP, hD⟩ := va_join (wr := ([(o2, .inl (k 6, 1, .inr (.inr (.inr (.inl g2)))))] ++ ([(o, .inl (k 5, 1, .inr (.inl u_1)))]))) (w1 := (fz_MO q2 u_2)) hP hD [1, 2, 3, 4, 5, 6, 7, 8] [0, 9] rfl rfl (by decide) (by decide) hk1 hFc hP1 (fz_Dsame (hDc.sub (ws' := fz_MO q2 v2) [0] (by decide) rfl) rfl)
    have hP : va_P D vwCl ([(o2, .inl (k 6, 1, .inr (.inr (.inr (.inl g2)))))] ++ ([(o, .inl (k 5, 1, .inr (.inl u_1)))] ++ (fz_MO q2 u_2))) H := hP
    have hD : va_D (fun q : Nat => s.heap.size ≤ q) ([(o2, .inl (k 6, 1, .inr (.inr (.inr (.inl g2)))))] ++ ([(o, .inl (k 5, 1, .inr (.inl u_1)))] ++ (fz_MO q2 u_2))) := hD
    rcases hw with ⟨rfl, ht_2, hc_2⟩
    · skip
      refine lv_istore (lv' := [(7, .int 0), (6, .int 1), (5, .int 0), (4, .ref o2), (3, .ref o), (2, .ref (q2 0)), (1, .ref (q 31)), (0, .ref b)]) hx hb dL_law_1215 hl (by decide) rfl (fun ls hl => ?_)
      refine lv_aload_n hx hb dL_law_1217 rfl (lv_at hl 5 rfl) ?_
      have hPc := hP.sub (ws' := (fz_MO q2 u_2)) [2] rfl
      have hDc : va_D (va_A (fz_MO q2 u_2) H.size) (fz_MO q2 u_2) := (hD.sub (ws' := (fz_MO q2 u_2)) [2] (by decide) rfl).self
      have hFc := va_free (wc := (fz_MO q2 u_2)) hD hS hA [2] rfl
      refine fz_cVi (As := []) (rest := []) S0 (m_thrown l (va_A (fz_MO q2 u_2) H.size) D k q2 u_2) (fz_cwV (C := RX10) 0 hts9 fm_823 fm_824 fm_825 fm_826 fm_469 rfl rfl ⟨by decide, by decide, by decide +kernel⟩ ⟨Nat.le_of_ble_eq_true rfl, Nat.le_of_ble_eq_true rfl⟩) (va_recv hK hPc (ci := 14) (q0 := 0) rfl rfl) hFc (fun a9 h9 => Or.inr h9) hG hS hPc hK hDc rfl hl.1 rfl (Nat.le_of_ble_eq_true rfl) dL_law_1218 ⟨Nat.le_of_ble_eq_true rfl, Nat.le_of_ble_eq_true rfl⟩ (fun r_3 u_3 H locs hw hz1 hk1 hP1 hS => ?_)
      obtain ⟨hP, hD⟩ := va_join (wr := ([(o2, .inl (k 6, 1, .inr (.inr (.inr (.inl g2)))))] ++ ([(o, .inl (k 5, 1, .inr (.inl u_1)))]))) (w1 := (fz_MO q2 u_2)) hP hD [2] [0, 1] rfl rfl (by decide) (by decide) hk1 hFc hP1 hDc
      have hP : va_P D vwCl ([(o2, .inl (k 6, 1, .inr (.inr (.inr (.inl g2)))))] ++ ([(o, .inl (k 5, 1, .inr (.inl u_1)))] ++ (fz_MO q2 u_2))) H := hP
      have hD : va_D (fun q : Nat => s.heap.size ≤ q) ([(o2, .inl (k 6, 1, .inr (.inr (.inr (.inl g2)))))] ++ ([(o, .inl (k 5, 1, .inr (.inl u_1)))] ++ (fz_MO q2 u_2))) := hD
      obtain rfl : r_3 = u_2 0 := hw
      refine fz_I (y := 1) ht_2 ?_
      refine lv_iload hx hb dL_law_1221 (lv_at hl 1 rfl) ?_
      refine lv_icmp_eq (tgt := 1228) hx hb dL_law_1223 (by decide) (fun c9 => ?_) (fun c9 => absurd (by decide) c9)
      refine lv_iload hx hb dL_law_1228 (lv_at hl 1 rfl) ?_
      refine lv_if_ne (tgt := 1245) hx hb dL_law_1230 (by decide) (fun c9 => ?_) (fun c9 => absurd c9 (by decide))
      refine lv_goto (tgt := 2457) hx hb dL_law_1245 (by decide) ?_
      exact lw_tail hL C0 (Nat.le_of_ble_eq_true rfl) (Nat.le_of_ble_eq_true rfl) hS ls (lv_sub hl [2, 7] rfl)

set_option maxHeartbeats 8000000 in
set_option maxRecDepth 100000 in
theorem lw_case15 {p : Program} {l : Launch} {e : Env} {s : State} {m : MethodId} {below : List Frame} {meth : Method} {c : Code} {D : va_G} {b L : Nat} {xs : Nat → Int32} (hl0 : l.stackTraces = false) (hL : L = 6) (C0 : lw_At p s m meth c b L xs) (hG : fz_GS (fun q : Nat => s.heap.size ≤ q) s) (k : Nat → ClassId) (hK : va_K D vwCl (fz_tys k) s) (q q2 : Nat → Nat) (f f2 : Nat → Nat → Int32) (pa pa2 : Nat → Option Nat) (v v2 : Nat → Int32) (o o2 : Nat) (g : Nat → Int64) (g2 : Nat → UInt64) (hF : fz_LF q2 f pa v f2 pa2 v2) (H : Heap) (locs : List Loc) (hP : va_P D vwCl (fz_WC k q f pa v ++ ([(o, .inl (k 5, 1, .inr (.inl g)))] ++ ([(o2, .inl (k 6, 1, .inr (.inr (.inr (.inl g2)))))] ++ (fz_WM k q2 f2 pa2 v2)))) H) (hD : va_D (fun q : Nat => s.heap.size ≤ q) (fz_WC k q f pa v ++ ([(o, .inl (k 5, 1, .inr (.inl g)))] ++ ([(o2, .inl (k 6, 1, .inr (.inr (.inr (.inl g2)))))] ++ (fz_WM k q2 f2 pa2 v2))))) (hS : va_S (fun q : Nat => s.heap.size ≤ q) s.heap H locs) (ls : Array Slot) (hl : lv_has ls 9 [(5, .int 0), (4, .ref o2), (3, .ref o), (2, .ref (q2 0)), (1, .ref (q 31)), (0, .ref b)]) :
    W p l e room_1 s m #[Value.ref b] below meth c H locs 2000 400000 (lw_Z below #[Value.ref b] s) (F0 m 1248 ls []) := by
  obtain ⟨g_v_0, g_v_1, g_v_2, g_v_3, g_v_4, g_v_5, g_v_6, g_v_7, g_v_8, g_v_9, g_v_10, g_v_11, g_v_12, g_v_13, g_v_14, g_v_15, g_v_17, g_f_2_0, g_f_4_0, g_f_5_0, g_f_6_0, g_f_7_0, g_f_8_0, g_f_9_0, g_f_11_0, g_f_18_0, g_f_19_0, g_pa_0, g_pa_1, g_pa_8, n_v_0, n_v_5, n_v_6, n_v_7, n_v_8, n_v_9, n_v_10, n_v_11, n_v_12, n_v_13, n_v_15, n_v_16, n_v_17, n_v_18, n_v_19, n_v_21, n_f_1_0, n_f_1_1, n_f_1_2, n_f_1_3, n_f_1_4, n_f_1_5, n_f_1_6, n_f_1_7, n_f_1_8, n_f_1_9, n_f_1_10, n_f_1_11, n_f_1_12, n_f_1_13, n_f_1_15, n_f_1_16, n_f_1_17, n_pb_0⟩ := hF
  obtain ⟨hx, hb, hr, hml, hown, hts, hX, hbl, hlocks, hgv⟩ := id C0
  subst hL
  have hL : (6 : Nat) = 6 := rfl
  have hA : ∀ q : Nat, s.heap.size ≤ q → (fun q : Nat => s.heap.size ≤ q) q := fun _ h => h
  have hbA : ¬ (fun q : Nat => s.heap.size ≤ q) b := Nat.not_le.mpr hbl
  have hts9 := fz_hts9 hts
  have hown : s.vm.findClass RL = some m.cls := hown
  have S0 : CallFix p m c code 9 s #[Value.ref b] (Cond.initialized RL :: fz_WA) RL := ⟨hx, hb, hml, hown, hts9⟩
  obtain ⟨x1, ex1⟩ : ∃ z, z = xs 1 := ⟨_, rfl⟩
  obtain ⟨x2, ex2⟩ : ∃ z, z = xs 2 := ⟨_, rfl⟩
  obtain ⟨x3, ex3⟩ : ∃ z, z = xs 3 := ⟨_, rfl⟩
  obtain ⟨x4, ex4⟩ : ∃ z, z = xs 4 := ⟨_, rfl⟩
  obtain ⟨x5, ex5⟩ : ∃ z, z = xs 5 := ⟨_, rfl⟩
  refine lv_aload_n hx hb dL_law_1248 rfl (lv_at hl 4 rfl) ?_
  refine lv_aload_n hx hb dL_law_1249 rfl (lv_at hl 5 rfl) ?_
  refine lv_iload hx hb dL_law_1250 (lv_at hl 0 rfl) ?_
  refine lv_iconst (v := 1) hx hb dL_law_1252 (by decide) ?_
  refine lv_iadd hx hb dL_law_1253 ?_
  refine fz_I (y := 1) (by decide) ?_
  refine va_sld hx hb hX hbl hbA hS (fz_vin (by decide)) dL_law_1254 ?_
  refine fz_I (y := x1) ex1.symm ?_
  refine lv_aload_n hx hb dL_law_1255 rfl (lv_at hl 5 rfl) ?_
  refine lv_iload hx hb dL_law_1256 (lv_at hl 0 rfl) ?_
  refine lv_iconst (v := 2) hx hb dL_law_1258 (by decide) ?_
  refine lv_iadd hx hb dL_law_1259 ?_
  refine fz_I (y := 2) (by decide) ?_
  refine va_sld hx hb hX hbl hbA hS (fz_vin (by decide)) dL_law_1260 ?_
  refine fz_I (y := x2) ex2.symm ?_
  refine lv_aload_n hx hb dL_law_1261 rfl (lv_at hl 2 rfl) ?_
  have hPc := hP.sub (ws' := (fz_WC k q f pa v ++ ([(o, .inl (k 5, 1, .inr (.inl g)))]))) [0, 1, 2, 3, 4, 5, 6, 7, 8, 9, 10, 11, 12, 13, 14, 15, 16, 17, 18, 19, 20, 21, 22, 23, 24, 25, 26, 27, 28, 29, 30, 31, 32, 33, 34, 35, 36, 37, 38] rfl
  have hDc : va_D (va_A (fz_WC k q f pa v ++ ([(o, .inl (k 5, 1, .inr (.inl g)))])) H.size) (fz_WC k q f pa v ++ ([(o, .inl (k 5, 1, .inr (.inl g)))])) := (hD.sub (ws' := (fz_WC k q f pa v ++ ([(o, .inl (k 5, 1, .inr (.inl g)))]))) [0, 1, 2, 3, 4, 5, 6, 7, 8, 9, 10, 11, 12, 13, 14, 15, 16, 17, 18, 19, 20, 21, 22, 23, 24, 25, 26, 27, 28, 29, 30, 31, 32, 33, 34, 35, 36, 37, 38] (by decide) rfl).self
  have hFc := va_free (wc := (fz_WC k q f pa v ++ ([(o, .inl (k 5, 1, .inr (.inl g)))]))) hD hS hA [0, 1, 2, 3, 4, 5, 6, 7, 8, 9, 10, 11, 12, 13, 14, 15, 16, 17, 18, 19, 20, 21, 22, 23, 24, 25, 26, 27, 28, 29, 30, 31, 32, 33, 34, 35, 36, 37, 38] rfl
  refine fz_hSi (As := [.ref (q 31), .int x1, .int x2, .ref o]) (rest := []) S0 (h_container l hl0 (va_A (fz_WC k q f pa v ++ ([(o, .inl (k 5, 1, .inr (.inl g)))])) H.size) D k q f pa v o g x1 x2 g_v_3) (vx_cwSW 4 hts9 (fz_gSW fm_729 fm_911 fm_912 fm_816) rfl rfl rfl ⟨by decide, by decide, by decide +kernel⟩ ⟨Nat.le_of_ble_eq_true rfl, Nat.le_of_ble_eq_true rfl⟩) hFc (fun a9 h9 => Or.inr h9) hG hS hPc hK hDc rfl hl.1 rfl (Nat.le_of_ble_eq_true rfl) dL_law_1262 ⟨Nat.le_of_ble_eq_true rfl, Nat.le_of_ble_eq_true rfl⟩ (fun r_1 u_1 H locs hw hz1 hk1 hP1 hS => ?_)
  obtain ⟨hP, hD⟩ := va_join (wr := ([(o2, .inl (k 6, 1, .inr (.inr (.inr (.inl g2)))))] ++ (fz_WM k q2 f2 pa2 v2))) (w1 := ([(o, .inl (k 5, 1, .inr (.inl u_1)))])) hP hD [0, 1, 2, 3, 4, 5, 6, 7, 8, 9, 10, 11, 12, 13, 14, 15, 16, 17, 18, 19, 20, 21, 22, 23, 24, 25, 26, 27, 28, 29, 30, 31, 32, 33, 34, 35, 36, 37, 38] [39, 40, 41, 42, 43, 44, 45, 46, 47] rfl rfl (by decide) (by decide) hk1 hFc hP1 (fz_Dsame (hDc.sub (ws' := [(o, .inl (k 5, 1, .inr (.inl g)))]) [38] (by decide) rfl) rfl)
  have hP : va_P D vwCl ([(o2, .inl (k 6, 1, .inr (.inr (.inr (.inl g2)))))] ++ (fz_WM k q2 f2 pa2 v2 ++ ([(o, .inl (k 5, 1, .inr (.inl u_1)))]))) H := hP
  have hD : va_D (fun q : Nat => s.heap.size ≤ q) ([(o2, .inl (k 6, 1, .inr (.inr (.inr (.inl g2)))))] ++ (fz_WM k q2 f2 pa2 v2 ++ ([(o, .inl (k 5, 1, .inr (.inl u_1)))]))) := hD
  rcases hw with ⟨rfl, hc_1⟩
  · skip
    refine lv_istore (lv' := [(6, .int 1), (5, .int 0), (4, .ref o2), (3, .ref o), (2, .ref (q2 0)), (1, .ref (q 31)), (0, .ref b)]) hx hb dL_law_1265 hl (by decide) rfl (fun ls hl => ?_)
    refine lv_aload_n hx hb dL_law_1267 rfl (lv_at hl 4 rfl) ?_
    refine lv_aload_n hx hb dL_law_1268 rfl (lv_at hl 6 rfl) ?_
    refine lv_iload hx hb dL_law_1269 (lv_at hl 1 rfl) ?_
    refine lv_iconst (v := 1) hx hb dL_law_1271 (by decide) ?_
    refine lv_iadd hx hb dL_law_1272 ?_
    refine fz_I (y := 1) (by decide) ?_
    refine va_sld hx hb hX hbl hbA hS (fz_vin (by decide)) dL_law_1273 ?_
    refine fz_I (y := x1) ex1.symm ?_
    refine lv_aload_n hx hb dL_law_1274 rfl (lv_at hl 6 rfl) ?_
    refine lv_iload hx hb dL_law_1275 (lv_at hl 1 rfl) ?_
    refine lv_iconst (v := 2) hx hb dL_law_1277 (by decide) ?_
    refine lv_iadd hx hb dL_law_1278 ?_
    refine fz_I (y := 2) (by decide) ?_
    refine va_sld hx hb hX hbl hbA hS (fz_vin (by decide)) dL_law_1279 ?_
    refine fz_I (y := x2) ex2.symm ?_
    have hPc := hP.sub (ws' := (fz_WM k q2 f2 pa2 v2)) [1, 2, 3, 4, 5, 6, 7, 8] rfl
    have hDc : va_D (va_A (fz_WM k q2 f2 pa2 v2) H.size) (fz_WM k q2 f2 pa2 v2) := (hD.sub (ws' := (fz_WM k q2 f2 pa2 v2)) [1, 2, 3, 4, 5, 6, 7, 8] (by decide) rfl).self
    have hFc := va_free (wc := (fz_WM k q2 f2 pa2 v2)) hD hS hA [1, 2, 3, 4, 5, 6, 7, 8] rfl
    refine fz_cVi (As := [.int x1, .int x2]) (rest := []) S0 (m_p_container l (va_A (fz_WM k q2 f2 pa2 v2) H.size) D k q2 f2 pa2 v2 x1 x2 n_f_1_2) (fz_cwV (C := RX10) 2 hts9 fm_913 fm_914 fm_915 fm_916 fm_469 rfl rfl ⟨by decide, by decide, by decide +kernel⟩ ⟨Nat.le_of_ble_eq_true rfl, Nat.le_of_ble_eq_true rfl⟩) (va_recv hK hPc (ci := 14) (q0 := 0) rfl rfl) hFc (fun a9 h9 => Or.inr h9) hG hS hPc hK hDc rfl hl.1 rfl (Nat.le_of_ble_eq_true rfl) dL_law_1280 ⟨Nat.le_of_ble_eq_true rfl, Nat.le_of_ble_eq_true rfl⟩ (fun r_2 u_2 H locs hw hz1 hk1 hP1 hS => ?_)
    obtain ⟨hP, hD⟩ := va_join (wr := ([(o2, .inl (k 6, 1, .inr (.inr (.inr (.inl g2)))))] ++ ([(o, .inl (k 5, 1, .inr (.inl u_1)))]))) (w1 := (fz_MO q2 u_2)) hP hD [1, 2, 3, 4, 5, 6, 7, 8] [0, 9] rfl rfl (by decide) (by decide) hk1 hFc hP1 (fz_Dsame (hDc.sub (ws' := fz_MO q2 v2) [0] (by decide) rfl) rfl)
    have hP : va_P D vwCl ([(o2, .inl (k 6, 1, .inr (.inr (.inr (.inl g2)))))] ++ ([(o, .inl (k 5, 1, .inr (.inl u_1)))] ++ (fz_MO q2 u_2))) H := hP
    have hD : va_D (fun q : Nat => s.heap.size ≤ q) ([(o2, .inl (k 6, 1, .inr (.inr (.inr (.inl g2)))))] ++ ([(o, .inl (k 5, 1, .inr (.inl u_1)))] ++ (fz_MO q2 u_2))) := hD
    rcases hw with ⟨rfl, ht_2, hc_2⟩
    · skip
      refine lv_istore (lv' := [(7, .int 0), (6, .int 1), (5, .int 0), (4, .ref o2), (3, .ref o), (2, .ref (q2 0)), (1, .ref (q 31)), (0, .ref b)]) hx hb dL_law_1283 hl (by decide) rfl (fun ls hl => ?_)
      refine lv_aload_n hx hb dL_law_1285 rfl (lv_at hl 5 rfl) ?_
      have hPc := hP.sub (ws' := (fz_MO q2 u_2)) [2] rfl
      have hDc : va_D (va_A (fz_MO q2 u_2) H.size) (fz_MO q2 u_2) := (hD.sub (ws' := (fz_MO q2 u_2)) [2] (by decide) rfl).self
      have hFc := va_free (wc := (fz_MO q2 u_2)) hD hS hA [2] rfl
      refine fz_cVi (As := []) (rest := []) S0 (m_thrown l (va_A (fz_MO q2 u_2) H.size) D k q2 u_2) (fz_cwV (C := RX10) 0 hts9 fm_823 fm_824 fm_825 fm_826 fm_469 rfl rfl ⟨by decide, by decide, by decide +kernel⟩ ⟨Nat.le_of_ble_eq_true rfl, Nat.le_of_ble_eq_true rfl⟩) (va_recv hK hPc (ci := 14) (q0 := 0) rfl rfl) hFc (fun a9 h9 => Or.inr h9) hG hS hPc hK hDc rfl hl.1 rfl (Nat.le_of_ble_eq_true rfl) dL_law_1286 ⟨Nat.le_of_ble_eq_true rfl, Nat.le_of_ble_eq_true rfl⟩ (fun r_3 u_3 H locs hw hz1 hk1 hP1 hS => ?_)
      obtain ⟨hP, hD⟩ := va_join (wr := ([(o2, .inl (k 6, 1, .inr (.inr (.inr (.inl g2)))))] ++ ([(o, .inl (k 5, 1, .inr (.inl u_1)))]))) (w1 := (fz_MO q2 u_2)) hP hD [2] [0, 1] rfl rfl (by decide) (by decide) hk1 hFc hP1 hDc
      have hP : va_P D vwCl ([(o2, .inl (k 6, 1, .inr (.inr (.inr (.inl g2)))))] ++ ([(o, .inl (k 5, 1, .inr (.inl u_1)))] ++ (fz_MO q2 u_2))) H := hP
      have hD : va_D (fun q : Nat => s.heap.size ≤ q) ([(o2, .inl (k 6, 1, .inr (.inr (.inr (.inl g2)))))] ++ ([(o, .inl (k 5, 1, .inr (.inl u_1)))] ++ (fz_MO q2 u_2))) := hD
      obtain rfl : r_3 = u_2 0 := hw
      refine fz_I (y := 1) ht_2 ?_
      refine lv_iload hx hb dL_law_1289 (lv_at hl 1 rfl) ?_
      refine lv_icmp_eq (tgt := 1296) hx hb dL_law_1291 (by decide) (fun c9 => ?_) (fun c9 => absurd (by decide) c9)
      refine lv_iload hx hb dL_law_1296 (lv_at hl 1 rfl) ?_
      refine lv_if_ne (tgt := 1313) hx hb dL_law_1298 (by decide) (fun c9 => ?_) (fun c9 => absurd c9 (by decide))
      refine lv_goto (tgt := 2457) hx hb dL_law_1313 (by decide) ?_
      exact lw_tail hL C0 (Nat.le_of_ble_eq_true rfl) (Nat.le_of_ble_eq_true rfl) hS ls (lv_sub hl [2, 7] rfl)

set_option maxHeartbeats 8000000 in
set_option maxRecDepth 100000 in
theorem lw_case16 {p : Program} {l : Launch} {e : Env} {s : State} {m : MethodId} {below : List Frame} {meth : Method} {c : Code} {D : va_G} {b L : Nat} {xs : Nat → Int32} (hl0 : l.stackTraces = false) (hL : L = 6) (C0 : lw_At p s m meth c b L xs) (hG : fz_GS (fun q : Nat => s.heap.size ≤ q) s) (k : Nat → ClassId) (hK : va_K D vwCl (fz_tys k) s) (q q2 : Nat → Nat) (f f2 : Nat → Nat → Int32) (pa pa2 : Nat → Option Nat) (v v2 : Nat → Int32) (o o2 : Nat) (g : Nat → Int64) (g2 : Nat → UInt64) (hF : fz_LF q2 f pa v f2 pa2 v2) (H : Heap) (locs : List Loc) (hP : va_P D vwCl (fz_WC k q f pa v ++ ([(o, .inl (k 5, 1, .inr (.inl g)))] ++ ([(o2, .inl (k 6, 1, .inr (.inr (.inr (.inl g2)))))] ++ (fz_WM k q2 f2 pa2 v2)))) H) (hD : va_D (fun q : Nat => s.heap.size ≤ q) (fz_WC k q f pa v ++ ([(o, .inl (k 5, 1, .inr (.inl g)))] ++ ([(o2, .inl (k 6, 1, .inr (.inr (.inr (.inl g2)))))] ++ (fz_WM k q2 f2 pa2 v2))))) (hS : va_S (fun q : Nat => s.heap.size ≤ q) s.heap H locs) (ls : Array Slot) (hl : lv_has ls 9 [(5, .int 0), (4, .ref o2), (3, .ref o), (2, .ref (q2 0)), (1, .ref (q 31)), (0, .ref b)]) :
    W p l e room_1 s m #[Value.ref b] below meth c H locs 2000 400000 (lw_Z below #[Value.ref b] s) (F0 m 1316 ls []) := by
  obtain ⟨g_v_0, g_v_1, g_v_2, g_v_3, g_v_4, g_v_5, g_v_6, g_v_7, g_v_8, g_v_9, g_v_10, g_v_11, g_v_12, g_v_13, g_v_14, g_v_15, g_v_17, g_f_2_0, g_f_4_0, g_f_5_0, g_f_6_0, g_f_7_0, g_f_8_0, g_f_9_0, g_f_11_0, g_f_18_0, g_f_19_0, g_pa_0, g_pa_1, g_pa_8, n_v_0, n_v_5, n_v_6, n_v_7, n_v_8, n_v_9, n_v_10, n_v_11, n_v_12, n_v_13, n_v_15, n_v_16, n_v_17, n_v_18, n_v_19, n_v_21, n_f_1_0, n_f_1_1, n_f_1_2, n_f_1_3, n_f_1_4, n_f_1_5, n_f_1_6, n_f_1_7, n_f_1_8, n_f_1_9, n_f_1_10, n_f_1_11, n_f_1_12, n_f_1_13, n_f_1_15, n_f_1_16, n_f_1_17, n_pb_0⟩ := hF
  obtain ⟨hx, hb, hr, hml, hown, hts, hX, hbl, hlocks, hgv⟩ := id C0
  subst hL
  have hL : (6 : Nat) = 6 := rfl
  have hA : ∀ q : Nat, s.heap.size ≤ q → (fun q : Nat => s.heap.size ≤ q) q := fun _ h => h
  have hbA : ¬ (fun q : Nat => s.heap.size ≤ q) b := Nat.not_le.mpr hbl
  have hts9 := fz_hts9 hts
  have hown : s.vm.findClass RL = some m.cls := hown
  have S0 : CallFix p m c code 9 s #[Value.ref b] (Cond.initialized RL :: fz_WA) RL := ⟨hx, hb, hml, hown, hts9⟩
  obtain ⟨x1, ex1⟩ : ∃ z, z = xs 1 := ⟨_, rfl⟩
  obtain ⟨x2, ex2⟩ : ∃ z, z = xs 2 := ⟨_, rfl⟩
  obtain ⟨x3, ex3⟩ : ∃ z, z = xs 3 := ⟨_, rfl⟩
  obtain ⟨x4, ex4⟩ : ∃ z, z = xs 4 := ⟨_, rfl⟩
  obtain ⟨x5, ex5⟩ : ∃ z, z = xs 5 := ⟨_, rfl⟩
  refine lv_aload_n hx hb dL_law_1316 rfl (lv_at hl 4 rfl) ?_
  refine lv_aload_n hx hb dL_law_1317 rfl (lv_at hl 5 rfl) ?_
  refine lv_iload hx hb dL_law_1318 (lv_at hl 0 rfl) ?_
  refine lv_iconst (v := 1) hx hb dL_law_1320 (by decide) ?_
  refine lv_iadd hx hb dL_law_1321 ?_
  refine fz_I (y := 1) (by decide) ?_
  refine va_sld hx hb hX hbl hbA hS (fz_vin (by decide)) dL_law_1322 ?_
  refine fz_I (y := x1) ex1.symm ?_
  refine lv_aload_n hx hb dL_law_1323 rfl (lv_at hl 5 rfl) ?_
  refine lv_iload hx hb dL_law_1324 (lv_at hl 0 rfl) ?_
  refine lv_iconst (v := 2) hx hb dL_law_1326 (by decide) ?_
  refine lv_iadd hx hb dL_law_1327 ?_
  refine fz_I (y := 2) (by decide) ?_
  refine va_sld hx hb hX hbl hbA hS (fz_vin (by decide)) dL_law_1328 ?_
  refine fz_I (y := x2) ex2.symm ?_
  refine lv_aload_n hx hb dL_law_1329 rfl (lv_at hl 2 rfl) ?_
  have hPc := hP.sub (ws' := (fz_WC k q f pa v ++ ([(o, .inl (k 5, 1, .inr (.inl g)))]))) [0, 1, 2, 3, 4, 5, 6, 7, 8, 9, 10, 11, 12, 13, 14, 15, 16, 17, 18, 19, 20, 21, 22, 23, 24, 25, 26, 27, 28, 29, 30, 31, 32, 33, 34, 35, 36, 37, 38] rfl
  have hDc : va_D (va_A (fz_WC k q f pa v ++ ([(o, .inl (k 5, 1, .inr (.inl g)))])) H.size) (fz_WC k q f pa v ++ ([(o, .inl (k 5, 1, .inr (.inl g)))])) := (hD.sub (ws' := (fz_WC k q f pa v ++ ([(o, .inl (k 5, 1, .inr (.inl g)))]))) [0, 1, 2, 3, 4, 5, 6, 7, 8, 9, 10, 11, 12, 13, 14, 15, 16, 17, 18, 19, 20, 21, 22, 23, 24, 25, 26, 27, 28, 29, 30, 31, 32, 33, 34, 35, 36, 37, 38] (by decide) rfl).self
  have hFc := va_free (wc := (fz_WC k q f pa v ++ ([(o, .inl (k 5, 1, .inr (.inl g)))]))) hD hS hA [0, 1, 2, 3, 4, 5, 6, 7, 8, 9, 10, 11, 12, 13, 14, 15, 16, 17, 18, 19, 20, 21, 22, 23, 24, 25, 26, 27, 28, 29, 30, 31, 32, 33, 34, 35, 36, 37, 38] rfl
  refine fz_hSi (As := [.ref (q 31), .int x1, .int x2, .ref o]) (rest := []) S0 (h_unitAt l hl0 (va_A (fz_WC k q f pa v ++ ([(o, .inl (k 5, 1, .inr (.inl g)))])) H.size) D k q f pa v o g x1 x2 g_v_3) (vx_cwSW 4 hts9 (fz_gSW fm_734 fm_917 fm_918 fm_816) rfl rfl rfl ⟨by decide, by decide, by decide +kernel⟩ ⟨Nat.le_of_ble_eq_true rfl, Nat.le_of_ble_eq_true rfl⟩) hFc (fun a9 h9 => Or.inr h9) hG hS hPc hK hDc rfl hl.1 rfl (Nat.le_of_ble_eq_true rfl) dL_law_1330 ⟨Nat.le_of_ble_eq_true rfl, Nat.le_of_ble_eq_true rfl⟩ (fun r_1 u_1 H locs hw hz1 hk1 hP1 hS => ?_)
  obtain ⟨hP, hD⟩ := va_join (wr := ([(o2, .inl (k 6, 1, .inr (.inr (.inr (.inl g2)))))] ++ (fz_WM k q2 f2 pa2 v2))) (w1 := ([(o, .inl (k 5, 1, .inr (.inl u_1)))])) hP hD [0, 1, 2, 3, 4, 5, 6, 7, 8, 9, 10, 11, 12, 13, 14, 15, 16, 17, 18, 19, 20, 21, 22, 23, 24, 25, 26, 27, 28, 29, 30, 31, 32, 33, 34, 35, 36, 37, 38] [39, 40, 41, 42, 43, 44, 45, 46, 47] rfl rfl (by decide) (by decide) hk1 hFc hP1 (fz_Dsame (hDc.sub (ws' := [(o, .inl (k 5, 1, .inr (.inl g)))]) [38] (by decide) rfl) rfl)
  have hP : va_P D vwCl ([(o2, .inl (k 6, 1, .inr (.inr (.inr (.inl g2)))))] ++ (fz_WM k q2 f2 pa2 v2 ++ ([(o, .inl (k 5, 1, .inr (.inl u_1)))]))) H := hP
  have hD : va_D (fun q : Nat => s.heap.size ≤ q) ([(o2, .inl (k 6, 1, .inr (.inr (.inr (.inl g2)))))] ++ (fz_WM k q2 f2 pa2 v2 ++ ([(o, .inl (k 5, 1, .inr (.inl u_1)))]))) := hD
  rcases hw with ⟨rfl, hc_1⟩
  · skip
    refine lv_istore (lv' := [(6, .int 1), (5, .int 0), (4, .ref o2), (3, .ref o), (2, .ref (q2 0)), (1, .ref (q 31)), (0, .ref b)]) hx hb dL_law_1333 hl (by decide) rfl (fun ls hl => ?_)
    refine lv_aload_n hx hb dL_law_1335 rfl (lv_at hl 4 rfl) ?_
    refine lv_aload_n hx hb dL_law_1336 rfl (lv_at hl 6 rfl) ?_
    refine lv_iload hx hb dL_law_1337 (lv_at hl 1 rfl) ?_
    refine lv_iconst (v := 1) hx hb dL_law_1339 (by decide) ?_
    refine lv_iadd hx hb dL_law_1340 ?_
    refine fz_I (y := 1) (by decide) ?_
    refine va_sld hx hb hX hbl hbA hS (fz_vin (by decide)) dL_law_1341 ?_
    refine fz_I (y := x1) ex1.symm ?_
    refine lv_aload_n hx hb dL_law_1342 rfl (lv_at hl 6 rfl) ?_
    refine lv_iload hx hb dL_law_1343 (lv_at hl 1 rfl) ?_
    refine lv_iconst (v := 2) hx hb dL_law_1345 (by decide) ?_
    refine lv_iadd hx hb dL_law_1346 ?_
    refine fz_I (y := 2) (by decide) ?_
    refine va_sld hx hb hX hbl hbA hS (fz_vin (by decide)) dL_law_1347 ?_
    refine fz_I (y := x2) ex2.symm ?_
    have hPc := hP.sub (ws' := (fz_WM k q2 f2 pa2 v2)) [1, 2, 3, 4, 5, 6, 7, 8] rfl
    have hDc : va_D (va_A (fz_WM k q2 f2 pa2 v2) H.size) (fz_WM k q2 f2 pa2 v2) := (hD.sub (ws' := (fz_WM k q2 f2 pa2 v2)) [1, 2, 3, 4, 5, 6, 7, 8] (by decide) rfl).self
    have hFc := va_free (wc := (fz_WM k q2 f2 pa2 v2)) hD hS hA [1, 2, 3, 4, 5, 6, 7, 8] rfl
    refine fz_cVi (As := [.int x1, .int x2]) (rest := []) S0 (m_p_unitAt l (va_A (fz_WM k q2 f2 pa2 v2) H.size) D k q2 f2 pa2 v2 x1 x2 n_f_1_2) (fz_cwV (C := RX10) 2 hts9 fm_919 fm_920 fm_921 fm_922 fm_469 rfl rfl ⟨by decide, by decide, by decide +kernel⟩ ⟨Nat.le_of_ble_eq_true rfl, Nat.le_of_ble_eq_true rfl⟩) (va_recv hK hPc (ci := 14) (q0 := 0) rfl rfl) hFc (fun a9 h9 => Or.inr h9) hG hS hPc hK hDc rfl hl.1 rfl (Nat.le_of_ble_eq_true rfl) dL_law_1348 ⟨Nat.le_of_ble_eq_true rfl, Nat.le_of_ble_eq_true rfl⟩ (fun r_2 u_2 H locs hw hz1 hk1 hP1 hS => ?_)
    obtain ⟨hP, hD⟩ := va_join (wr := ([(o2, .inl (k 6, 1, .inr (.inr (.inr (.inl g2)))))] ++ ([(o, .inl (k 5, 1, .inr (.inl u_1)))]))) (w1 := (fz_MO q2 u_2)) hP hD [1, 2, 3, 4, 5, 6, 7, 8] [0, 9] rfl rfl (by decide) (by decide) hk1 hFc hP1 (fz_Dsame (hDc.sub (ws' := fz_MO q2 v2) [0] (by decide) rfl) rfl)
    have hP : va_P D vwCl ([(o2, .inl (k 6, 1, .inr (.inr (.inr (.inl g2)))))] ++ ([(o, .inl (k 5, 1, .inr (.inl u_1)))] ++ (fz_MO q2 u_2))) H := hP
    have hD : va_D (fun q : Nat => s.heap.size ≤ q) ([(o2, .inl (k 6, 1, .inr (.inr (.inr (.inl g2)))))] ++ ([(o, .inl (k 5, 1, .inr (.inl u_1)))] ++ (fz_MO q2 u_2))) := hD
    rcases hw with ⟨rfl, ht_2, hc_2⟩
    · skip
      refine lv_istore (lv' := [(7, .int 0), (6, .int 1), (5, .int 0), (4, .ref o2), (3, .ref o), (2, .ref (q2 0)), (1, .ref (q 31)), (0, .ref b)]) hx hb dL_law_1351 hl (by decide) rfl (fun ls hl => ?_)
      refine lv_aload_n hx hb dL_law_1353 rfl (lv_at hl 5 rfl) ?_
      have hPc := hP.sub (ws' := (fz_MO q2 u_2)) [2] rfl
      have hDc : va_D (va_A (fz_MO q2 u_2) H.size) (fz_MO q2 u_2) := (hD.sub (ws' := (fz_MO q2 u_2)) [2] (by decide) rfl).self
      have hFc := va_free (wc := (fz_MO q2 u_2)) hD hS hA [2] rfl
      refine fz_cVi (As := []) (rest := []) S0 (m_thrown l (va_A (fz_MO q2 u_2) H.size) D k q2 u_2) (fz_cwV (C := RX10) 0 hts9 fm_823 fm_824 fm_825 fm_826 fm_469 rfl rfl ⟨by decide, by decide, by decide +kernel⟩ ⟨Nat.le_of_ble_eq_true rfl, Nat.le_of_ble_eq_true rfl⟩) (va_recv hK hPc (ci := 14) (q0 := 0) rfl rfl) hFc (fun a9 h9 => Or.inr h9) hG hS hPc hK hDc rfl hl.1 rfl (Nat.le_of_ble_eq_true rfl) dL_law_1354 ⟨Nat.le_of_ble_eq_true rfl, Nat.le_of_ble_eq_true rfl⟩ (fun r_3 u_3 H locs hw hz1 hk1 hP1 hS => ?_)
      obtain ⟨hP, hD⟩ := va_join (wr := ([(o2, .inl (k 6, 1, .inr (.inr (.inr (.inl g2)))))] ++ ([(o, .inl (k 5, 1, .inr (.inl u_1)))]))) (w1 := (fz_MO q2 u_2)) hP hD [2] [0, 1] rfl rfl (by decide) (by decide) hk1 hFc hP1 hDc
      have hP : va_P D vwCl ([(o2, .inl (k 6, 1, .inr (.inr (.inr (.inl g2)))))] ++ ([(o, .inl (k 5, 1, .inr (.inl u_1)))] ++ (fz_MO q2 u_2))) H := hP
      have hD : va_D (fun q : Nat => s.heap.size ≤ q) ([(o2, .inl (k 6, 1, .inr (.inr (.inr (.inl g2)))))] ++ ([(o, .inl (k 5, 1, .inr (.inl u_1)))] ++ (fz_MO q2 u_2))) := hD
      obtain rfl : r_3 = u_2 0 := hw
      refine fz_I (y := 1) ht_2 ?_
      refine lv_iload hx hb dL_law_1357 (lv_at hl 1 rfl) ?_
      refine lv_icmp_eq (tgt := 1364) hx hb dL_law_1359 (by decide) (fun c9 => ?_) (fun c9 => absurd (by decide) c9)
      refine lv_iload hx hb dL_law_1364 (lv_at hl 1 rfl) ?_
      refine lv_if_ne (tgt := 1381) hx hb dL_law_1366 (by decide) (fun c9 => ?_) (fun c9 => absurd c9 (by decide))
      refine lv_goto (tgt := 2457) hx hb dL_law_1381 (by decide) ?_
      exact lw_tail hL C0 (Nat.le_of_ble_eq_true rfl) (Nat.le_of_ble_eq_true rfl) hS ls (lv_sub hl [2, 7] rfl)

set_option maxHeartbeats 8000000 in
set_option maxRecDepth 100000 in
theorem lw_case18 {p : Program} {l : Launch} {e : Env} {s : State} {m : MethodId} {below : List Frame} {meth : Method} {c : Code} {D : va_G} {b L : Nat} {xs : Nat → Int32} (hl0 : l.stackTraces = false) (hL : L = 6) (C0 : lw_At p s m meth c b L xs) (hG : fz_GS (fun q : Nat => s.heap.size ≤ q) s) (k : Nat → ClassId) (hK : va_K D vwCl (fz_tys k) s) (q q2 : Nat → Nat) (f f2 : Nat → Nat → Int32) (pa pa2 : Nat → Option Nat) (v v2 : Nat → Int32) (o o2 : Nat) (g : Nat → Int64) (g2 : Nat → UInt64) (hF : fz_LF q2 f pa v f2 pa2 v2) (H : Heap) (locs : List Loc) (hP : va_P D vwCl (fz_WC k q f pa v ++ ([(o, .inl (k 5, 1, .inr (.inl g)))] ++ ([(o2, .inl (k 6, 1, .inr (.inr (.inr (.inl g2)))))] ++ (fz_WM k q2 f2 pa2 v2)))) H) (hD : va_D (fun q : Nat => s.heap.size ≤ q) (fz_WC k q f pa v ++ ([(o, .inl (k 5, 1, .inr (.inl g)))] ++ ([(o2, .inl (k 6, 1, .inr (.inr (.inr (.inl g2)))))] ++ (fz_WM k q2 f2 pa2 v2))))) (hS : va_S (fun q : Nat => s.heap.size ≤ q) s.heap H locs) (ls : Array Slot) (hl : lv_has ls 9 [(5, .int 0), (4, .ref o2), (3, .ref o), (2, .ref (q2 0)), (1, .ref (q 31)), (0, .ref b)]) :
    W p l e room_1 s m #[Value.ref b] below meth c H locs 2000 400000 (lw_Z below #[Value.ref b] s) (F0 m 1452 ls []) := by
  obtain ⟨g_v_0, g_v_1, g_v_2, g_v_3, g_v_4, g_v_5, g_v_6, g_v_7, g_v_8, g_v_9, g_v_10, g_v_11, g_v_12, g_v_13, g_v_14, g_v_15, g_v_17, g_f_2_0, g_f_4_0, g_f_5_0, g_f_6_0, g_f_7_0, g_f_8_0, g_f_9_0, g_f_11_0, g_f_18_0, g_f_19_0, g_pa_0, g_pa_1, g_pa_8, n_v_0, n_v_5, n_v_6, n_v_7, n_v_8, n_v_9, n_v_10, n_v_11, n_v_12, n_v_13, n_v_15, n_v_16, n_v_17, n_v_18, n_v_19, n_v_21, n_f_1_0, n_f_1_1, n_f_1_2, n_f_1_3, n_f_1_4, n_f_1_5, n_f_1_6, n_f_1_7, n_f_1_8, n_f_1_9, n_f_1_10, n_f_1_11, n_f_1_12, n_f_1_13, n_f_1_15, n_f_1_16, n_f_1_17, n_pb_0⟩ := hF
  obtain ⟨hx, hb, hr, hml, hown, hts, hX, hbl, hlocks, hgv⟩ := id C0
  subst hL
  have hL : (6 : Nat) = 6 := rfl
  have hA : ∀ q : Nat, s.heap.size ≤ q → (fun q : Nat => s.heap.size ≤ q) q := fun _ h => h
  have hbA : ¬ (fun q : Nat => s.heap.size ≤ q) b := Nat.not_le.mpr hbl
  have hts9 := fz_hts9 hts
  have hown : s.vm.findClass RL = some m.cls := hown
  have S0 : CallFix p m c code 9 s #[Value.ref b] (Cond.initialized RL :: fz_WA) RL := ⟨hx, hb, hml, hown, hts9⟩
  obtain ⟨x1, ex1⟩ : ∃ z, z = xs 1 := ⟨_, rfl⟩
  obtain ⟨x2, ex2⟩ : ∃ z, z = xs 2 := ⟨_, rfl⟩
  obtain ⟨x3, ex3⟩ : ∃ z, z = xs 3 := ⟨_, rfl⟩
  obtain ⟨x4, ex4⟩ : ∃ z, z = xs 4 := ⟨_, rfl⟩
  obtain ⟨x5, ex5⟩ : ∃ z, z = xs 5 := ⟨_, rfl⟩
  refine lv_aload_n hx hb dL_law_1452 rfl (lv_at hl 4 rfl) ?_
  refine lv_aload_n hx hb dL_law_1453 rfl (lv_at hl 5 rfl) ?_
  refine lv_iload hx hb dL_law_1454 (lv_at hl 0 rfl) ?_
  refine lv_iconst (v := 1) hx hb dL_law_1456 (by decide) ?_
  refine lv_iadd hx hb dL_law_1457 ?_
  refine fz_I (y := 1) (by decide) ?_
  refine va_sld hx hb hX hbl hbA hS (fz_vin (by decide)) dL_law_1458 ?_
  refine fz_I (y := x1) ex1.symm ?_
  refine lv_aload_n hx hb dL_law_1459 rfl (lv_at hl 5 rfl) ?_
  refine lv_iload hx hb dL_law_1460 (lv_at hl 0 rfl) ?_
  refine lv_iconst (v := 2) hx hb dL_law_1462 (by decide) ?_
  refine lv_iadd hx hb dL_law_1463 ?_
  refine fz_I (y := 2) (by decide) ?_
  refine va_sld hx hb hX hbl hbA hS (fz_vin (by decide)) dL_law_1464 ?_
  refine fz_I (y := x2) ex2.symm ?_
  refine lv_aload_n hx hb dL_law_1465 rfl (lv_at hl 2 rfl) ?_
  have hPc := hP.sub (ws' := (fz_WC k q f pa v ++ ([(o, .inl (k 5, 1, .inr (.inl g)))]))) [0, 1, 2, 3, 4, 5, 6, 7, 8, 9, 10, 11, 12, 13, 14, 15, 16, 17, 18, 19, 20, 21, 22, 23, 24, 25, 26, 27, 28, 29, 30, 31, 32, 33, 34, 35, 36, 37, 38] rfl
  have hDc : va_D (va_A (fz_WC k q f pa v ++ ([(o, .inl (k 5, 1, .inr (.inl g)))])) H.size) (fz_WC k q f pa v ++ ([(o, .inl (k 5, 1, .inr (.inl g)))])) := (hD.sub (ws' := (fz_WC k q f pa v ++ ([(o, .inl (k 5, 1, .inr (.inl g)))]))) [0, 1, 2, 3, 4, 5, 6, 7, 8, 9, 10, 11, 12, 13, 14, 15, 16, 17, 18, 19, 20, 21, 22, 23, 24, 25, 26, 27, 28, 29, 30, 31, 32, 33, 34, 35, 36, 37, 38] (by decide) rfl).self
  have hFc := va_free (wc := (fz_WC k q f pa v ++ ([(o, .inl (k 5, 1, .inr (.inl g)))]))) hD hS hA [0, 1, 2, 3, 4, 5, 6, 7, 8, 9, 10, 11, 12, 13, 14, 15, 16, 17, 18, 19, 20, 21, 22, 23, 24, 25, 26, 27, 28, 29, 30, 31, 32, 33, 34, 35, 36, 37, 38] rfl
  refine fz_hSi (As := [.ref (q 31), .int x1, .int x2, .ref o]) (rest := []) S0 (h_copy l hl0 (va_A (fz_WC k q f pa v ++ ([(o, .inl (k 5, 1, .inr (.inl g)))])) H.size) D k q f pa v o g x1 x2 g_v_1 g_f_4_0 g_f_7_0) (vx_cwSW 4 hts9 (fz_gSW fm_739 fm_923 fm_924 fm_816) rfl rfl rfl ⟨by decide, by decide, by decide +kernel⟩ ⟨Nat.le_of_ble_eq_true rfl, Nat.le_of_ble_eq_true rfl⟩) hFc (fun a9 h9 => Or.inr h9) hG hS hPc hK hDc rfl hl.1 rfl (Nat.le_of_ble_eq_true rfl) dL_law_1466 ⟨Nat.le_of_ble_eq_true rfl, Nat.le_of_ble_eq_true rfl⟩ (fun r_1 u_1 H locs hw hz1 hk1 hP1 hS => ?_)
  obtain ⟨hP, hD⟩ := va_join (wr := ([(o2, .inl (k 6, 1, .inr (.inr (.inr (.inl g2)))))] ++ (fz_WM k q2 f2 pa2 v2))) (w1 := ([(o, .inl (k 5, 1, .inr (.inl u_1)))])) hP hD [0, 1, 2, 3, 4, 5, 6, 7, 8, 9, 10, 11, 12, 13, 14, 15, 16, 17, 18, 19, 20, 21, 22, 23, 24, 25, 26, 27, 28, 29, 30, 31, 32, 33, 34, 35, 36, 37, 38] [39, 40, 41, 42, 43, 44, 45, 46, 47] rfl rfl (by decide) (by decide) hk1 hFc hP1 (fz_Dsame (hDc.sub (ws' := [(o, .inl (k 5, 1, .inr (.inl g)))]) [38] (by decide) rfl) rfl)
  have hP : va_P D vwCl ([(o2, .inl (k 6, 1, .inr (.inr (.inr (.inl g2)))))] ++ (fz_WM k q2 f2 pa2 v2 ++ ([(o, .inl (k 5, 1, .inr (.inl u_1)))]))) H := hP
  have hD : va_D (fun q : Nat => s.heap.size ≤ q) ([(o2, .inl (k 6, 1, .inr (.inr (.inr (.inl g2)))))] ++ (fz_WM k q2 f2 pa2 v2 ++ ([(o, .inl (k 5, 1, .inr (.inl u_1)))]))) := hD
  rcases hw with ⟨rfl, hc_1⟩ | ⟨rfl, hc_1⟩
  · skip
    refine lv_istore (lv' := [(6, .int 1), (5, .int 0), (4, .ref o2), (3, .ref o), (2, .ref (q2 0)), (1, .ref (q 31)), (0, .ref b)]) hx hb dL_law_1469 hl (by decide) rfl (fun ls hl => ?_)
    refine lv_aload_n hx hb dL_law_1471 rfl (lv_at hl 4 rfl) ?_
    refine lv_aload_n hx hb dL_law_1472 rfl (lv_at hl 6 rfl) ?_
    refine lv_iload hx hb dL_law_1473 (lv_at hl 1 rfl) ?_
    refine lv_iconst (v := 1) hx hb dL_law_1475 (by decide) ?_
    refine lv_iadd hx hb dL_law_1476 ?_
    refine fz_I (y := 1) (by decide) ?_
    refine va_sld hx hb hX hbl hbA hS (fz_vin (by decide)) dL_law_1477 ?_
    refine fz_I (y := x1) ex1.symm ?_
    refine lv_aload_n hx hb dL_law_1478 rfl (lv_at hl 6 rfl) ?_
    refine lv_iload hx hb dL_law_1479 (lv_at hl 1 rfl) ?_
    refine lv_iconst (v := 2) hx hb dL_law_1481 (by decide) ?_
    refine lv_iadd hx hb dL_law_1482 ?_
    refine fz_I (y := 2) (by decide) ?_
    refine va_sld hx hb hX hbl hbA hS (fz_vin (by decide)) dL_law_1483 ?_
    refine fz_I (y := x2) ex2.symm ?_
    have hPc := hP.sub (ws' := (fz_WM k q2 f2 pa2 v2)) [1, 2, 3, 4, 5, 6, 7, 8] rfl
    have hDc : va_D (va_A (fz_WM k q2 f2 pa2 v2) H.size) (fz_WM k q2 f2 pa2 v2) := (hD.sub (ws' := (fz_WM k q2 f2 pa2 v2)) [1, 2, 3, 4, 5, 6, 7, 8] (by decide) rfl).self
    have hFc := va_free (wc := (fz_WM k q2 f2 pa2 v2)) hD hS hA [1, 2, 3, 4, 5, 6, 7, 8] rfl
    refine fz_cVi (As := [.int x1, .int x2]) (rest := []) S0 (m_p_copy l (va_A (fz_WM k q2 f2 pa2 v2) H.size) D k q2 f2 pa2 v2 x1 x2 n_f_1_0 n_f_1_7 n_f_1_10) (fz_cwV (C := RX10) 2 hts9 fm_925 fm_926 fm_927 fm_928 fm_469 rfl rfl ⟨by decide, by decide, by decide +kernel⟩ ⟨Nat.le_of_ble_eq_true rfl, Nat.le_of_ble_eq_true rfl⟩) (va_recv hK hPc (ci := 14) (q0 := 0) rfl rfl) hFc (fun a9 h9 => Or.inr h9) hG hS hPc hK hDc rfl hl.1 rfl (Nat.le_of_ble_eq_true rfl) dL_law_1484 ⟨Nat.le_of_ble_eq_true rfl, Nat.le_of_ble_eq_true rfl⟩ (fun r_2 u_2 H locs hw hz1 hk1 hP1 hS => ?_)
    obtain ⟨hP, hD⟩ := va_join (wr := ([(o2, .inl (k 6, 1, .inr (.inr (.inr (.inl g2)))))] ++ ([(o, .inl (k 5, 1, .inr (.inl u_1)))]))) (w1 := (fz_MO q2 u_2)) hP hD [1, 2, 3, 4, 5, 6, 7, 8] [0, 9] rfl rfl (by decide) (by decide) hk1 hFc hP1 (fz_Dsame (hDc.sub (ws' := fz_MO q2 v2) [0] (by decide) rfl) rfl)
    have hP : va_P D vwCl ([(o2, .inl (k 6, 1, .inr (.inr (.inr (.inl g2)))))] ++ ([(o, .inl (k 5, 1, .inr (.inl u_1)))] ++ (fz_MO q2 u_2))) H := hP
    have hD : va_D (fun q : Nat => s.heap.size ≤ q) ([(o2, .inl (k 6, 1, .inr (.inr (.inr (.inl g2)))))] ++ ([(o, .inl (k 5, 1, .inr (.inl u_1)))] ++ (fz_MO q2 u_2))) := hD
    rcases hw with ⟨rfl, ht_2, hc_2⟩ | ⟨rfl, ht_2, hc_2⟩
    · skip
      refine lv_istore (lv' := [(7, .int 0), (6, .int 1), (5, .int 0), (4, .ref o2), (3, .ref o), (2, .ref (q2 0)), (1, .ref (q 31)), (0, .ref b)]) hx hb dL_law_1487 hl (by decide) rfl (fun ls hl => ?_)
      refine lv_aload_n hx hb dL_law_1489 rfl (lv_at hl 5 rfl) ?_
      have hPc := hP.sub (ws' := (fz_MO q2 u_2)) [2] rfl
      have hDc : va_D (va_A (fz_MO q2 u_2) H.size) (fz_MO q2 u_2) := (hD.sub (ws' := (fz_MO q2 u_2)) [2] (by decide) rfl).self
      have hFc := va_free (wc := (fz_MO q2 u_2)) hD hS hA [2] rfl
      refine fz_cVi (As := []) (rest := []) S0 (m_thrown l (va_A (fz_MO q2 u_2) H.size) D k q2 u_2) (fz_cwV (C := RX10) 0 hts9 fm_823 fm_824 fm_825 fm_826 fm_469 rfl rfl ⟨by decide, by decide, by decide +kernel⟩ ⟨Nat.le_of_ble_eq_true rfl, Nat.le_of_ble_eq_true rfl⟩) (va_recv hK hPc (ci := 14) (q0 := 0) rfl rfl) hFc (fun a9 h9 => Or.inr h9) hG hS hPc hK hDc rfl hl.1 rfl (Nat.le_of_ble_eq_true rfl) dL_law_1490 ⟨Nat.le_of_ble_eq_true rfl, Nat.le_of_ble_eq_true rfl⟩ (fun r_3 u_3 H locs hw hz1 hk1 hP1 hS => ?_)
      obtain ⟨hP, hD⟩ := va_join (wr := ([(o2, .inl (k 6, 1, .inr (.inr (.inr (.inl g2)))))] ++ ([(o, .inl (k 5, 1, .inr (.inl u_1)))]))) (w1 := (fz_MO q2 u_2)) hP hD [2] [0, 1] rfl rfl (by decide) (by decide) hk1 hFc hP1 hDc
      have hP : va_P D vwCl ([(o2, .inl (k 6, 1, .inr (.inr (.inr (.inl g2)))))] ++ ([(o, .inl (k 5, 1, .inr (.inl u_1)))] ++ (fz_MO q2 u_2))) H := hP
      have hD : va_D (fun q : Nat => s.heap.size ≤ q) ([(o2, .inl (k 6, 1, .inr (.inr (.inr (.inl g2)))))] ++ ([(o, .inl (k 5, 1, .inr (.inl u_1)))] ++ (fz_MO q2 u_2))) := hD
      obtain rfl : r_3 = u_2 0 := hw
      refine fz_I (y := 1) ht_2 ?_
      refine lv_iload hx hb dL_law_1493 (lv_at hl 1 rfl) ?_
      refine lv_icmp_eq (tgt := 1500) hx hb dL_law_1495 (by decide) (fun c9 => ?_) (fun c9 => absurd (by decide) c9)
      refine lv_iload hx hb dL_law_1500 (lv_at hl 1 rfl) ?_
      refine lv_if_ne (tgt := 1517) hx hb dL_law_1502 (by decide) (fun c9 => ?_) (fun c9 => absurd c9 (by decide))
      refine lv_goto (tgt := 2457) hx hb dL_law_1517 (by decide) ?_
      exact lw_tail hL C0 (Nat.le_of_ble_eq_true rfl) (Nat.le_of_ble_eq_true rfl) hS ls (lv_sub hl [2, 7] rfl)
    · skip
      exact (fq_136 x1 hc_1 hc_2).elim
  · skip
    obtain rfl : x1 = 0 := (fq_27 x1 hc_1)
    refine lv_istore (lv' := [(6, .int 2), (5, .int 0), (4, .ref o2), (3, .ref o), (2, .ref (q2 0)), (1, .ref (q 31)), (0, .ref b)]) hx hb dL_law_1469 hl (by decide) rfl (fun ls hl => ?_)
    refine lv_aload_n hx hb dL_law_1471 rfl (lv_at hl 4 rfl) ?_
    refine lv_aload_n hx hb dL_law_1472 rfl (lv_at hl 6 rfl) ?_
    refine lv_iload hx hb dL_law_1473 (lv_at hl 1 rfl) ?_
    refine lv_iconst (v := 1) hx hb dL_law_1475 (by decide) ?_
    refine lv_iadd hx hb dL_law_1476 ?_
    refine fz_I (y := 1) (by decide) ?_
    refine va_sld hx hb hX hbl hbA hS (fz_vin (by decide)) dL_law_1477 ?_
    refine fz_I (y := 0) ex1.symm ?_
    refine lv_aload_n hx hb dL_law_1478 rfl (lv_at hl 6 rfl) ?_
    refine lv_iload hx hb dL_law_1479 (lv_at hl 1 rfl) ?_
    refine lv_iconst (v := 2) hx hb dL_law_1481 (by decide) ?_
    refine lv_iadd hx hb dL_law_1482 ?_
    refine fz_I (y := 2) (by decide) ?_
    refine va_sld hx hb hX hbl hbA hS (fz_vin (by decide)) dL_law_1483 ?_
    refine fz_I (y := x2) ex2.symm ?_
    have hPc := hP.sub (ws' := (fz_WM k q2 f2 pa2 v2)) [1, 2, 3, 4, 5, 6, 7, 8] rfl
    have hDc : va_D (va_A (fz_WM k q2 f2 pa2 v2) H.size) (fz_WM k q2 f2 pa2 v2) := (hD.sub (ws' := (fz_WM k q2 f2 pa2 v2)) [1, 2, 3, 4, 5, 6, 7, 8] (by decide) rfl).self
    have hFc := va_free (wc := (fz_WM k q2 f2 pa2 v2)) hD hS hA [1, 2, 3, 4, 5, 6, 7, 8] rfl
    refine fz_cVi (As := [.int 0, .int x2]) (rest := []) S0 (m_p_copy l (va_A (fz_WM k q2 f2 pa2 v2) H.size) D k q2 f2 pa2 v2 0 x2 n_f_1_0 n_f_1_7 n_f_1_10) (fz_cwV (C := RX10) 2 hts9 fm_925 fm_926 fm_927 fm_928 fm_469 rfl rfl ⟨by decide, by decide, by decide +kernel⟩ ⟨Nat.le_of_ble_eq_true rfl, Nat.le_of_ble_eq_true rfl⟩) (va_recv hK hPc (ci := 14) (q0 := 0) rfl rfl) hFc (fun a9 h9 => Or.inr h9) hG hS hPc hK hDc rfl hl.1 rfl (Nat.le_of_ble_eq_true rfl) dL_law_1484 ⟨Nat.le_of_ble_eq_true rfl, Nat.le_of_ble_eq_true rfl⟩ (fun r_2 u_2 H locs hw hz1 hk1 hP1 hS => ?_)
    obtain ⟨hP, hD⟩ := va_join (wr := ([(o2, .inl (k 6, 1, .inr (.inr (.inr (.inl g2)))))] ++ ([(o, .inl (k 5, 1, .inr (.inl u_1)))]))) (w1 := (fz_MO q2 u_2)) hP hD [1, 2, 3, 4, 5, 6, 7, 8] [0, 9] rfl rfl (by decide) (by decide) hk1 hFc hP1 (fz_Dsame (hDc.sub (ws' := fz_MO q2 v2) [0] (by decide) rfl) rfl)
    have hP : va_P D vwCl ([(o2, .inl (k 6, 1, .inr (.inr (.inr (.inl g2)))))] ++ ([(o, .inl (k 5, 1, .inr (.inl u_1)))] ++ (fz_MO q2 u_2))) H := hP
    have hD : va_D (fun q : Nat => s.heap.size ≤ q) ([(o2, .inl (k 6, 1, .inr (.inr (.inr (.inl g2)))))] ++ ([(o, .inl (k 5, 1, .inr (.inl u_1)))] ++ (fz_MO q2 u_2))) := hD
    rcases hw with ⟨rfl, ht_2, hc_2⟩ | ⟨rfl, ht_2, hc_2⟩
    · skip
      exact (fq_112 hc_2).elim
    · skip
      refine lv_istore (lv' := [(7, .int 0), (6, .int 2), (5, .int 0), (4, .ref o2), (3, .ref o), (2, .ref (q2 0)), (1, .ref (q 31)), (0, .ref b)]) hx hb dL_law_1487 hl (by decide) rfl (fun ls hl => ?_)
      refine lv_aload_n hx hb dL_law_1489 rfl (lv_at hl 5 rfl) ?_
      have hPc := hP.sub (ws' := (fz_MO q2 u_2)) [2] rfl
      have hDc : va_D (va_A (fz_MO q2 u_2) H.size) (fz_MO q2 u_2) := (hD.sub (ws' := (fz_MO q2 u_2)) [2] (by decide) rfl).self
      have hFc := va_free (wc := (fz_MO q2 u_2)) hD hS hA [2] rfl
      refine fz_cVi (As := []) (rest := []) S0 (m_thrown l (va_A (fz_MO q2 u_2) H.size) D k q2 u_2) (fz_cwV (C := RX10) 0 hts9 fm_823 fm_824 fm_825 fm_826 fm_469 rfl rfl ⟨by decide, by decide, by decide +kernel⟩ ⟨Nat.le_of_ble_eq_true rfl, Nat.le_of_ble_eq_true rfl⟩) (va_recv hK hPc (ci := 14) (q0 := 0) rfl rfl) hFc (fun a9 h9 => Or.inr h9) hG hS hPc hK hDc rfl hl.1 rfl (Nat.le_of_ble_eq_true rfl) dL_law_1490 ⟨Nat.le_of_ble_eq_true rfl, Nat.le_of_ble_eq_true rfl⟩ (fun r_3 u_3 H locs hw hz1 hk1 hP1 hS => ?_)
      obtain ⟨hP, hD⟩ := va_join (wr := ([(o2, .inl (k 6, 1, .inr (.inr (.inr (.inl g2)))))] ++ ([(o, .inl (k 5, 1, .inr (.inl u_1)))]))) (w1 := (fz_MO q2 u_2)) hP hD [2] [0, 1] rfl rfl (by decide) (by decide) hk1 hFc hP1 hDc
      have hP : va_P D vwCl ([(o2, .inl (k 6, 1, .inr (.inr (.inr (.inl g2)))))] ++ ([(o, .inl (k 5, 1, .inr (.inl u_1)))] ++ (fz_MO q2 u_2))) H := hP
      have hD : va_D (fun q : Nat => s.heap.size ≤ q) ([(o2, .inl (k 6, 1, .inr (.inr (.inr (.inl g2)))))] ++ ([(o, .inl (k 5, 1, .inr (.inl u_1)))] ++ (fz_MO q2 u_2))) := hD
      obtain rfl : r_3 = u_2 0 := hw
      refine fz_I (y := 2) ht_2 ?_
      refine lv_iload hx hb dL_law_1493 (lv_at hl 1 rfl) ?_
      refine lv_icmp_eq (tgt := 1500) hx hb dL_law_1495 (by decide) (fun c9 => ?_) (fun c9 => absurd (by decide) c9)
      refine lv_iload hx hb dL_law_1500 (lv_at hl 1 rfl) ?_
      refine lv_if_ne (tgt := 1517) hx hb dL_law_1502 (by decide) (fun c9 => ?_) (fun c9 => absurd c9 (by decide))
      refine lv_goto (tgt := 2457) hx hb dL_law_1517 (by decide) ?_
      exact lw_tail hL C0 (Nat.le_of_ble_eq_true rfl) (Nat.le_of_ble_eq_true rfl) hS ls (lv_sub hl [2, 7] rfl)

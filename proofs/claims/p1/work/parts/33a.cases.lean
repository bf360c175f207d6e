set_option maxHeartbeats 8000000 in
set_option maxRecDepth 100000 in
theorem lw_case0 {p : Program} {l : Launch} {e : Env} {s : State} {m : MethodId} {below : List Frame} {meth : Method} {c : Code} {D : va_G} {b L : Nat} {xs : Nat → Int32} (hl0 : l.stackTraces = false) (hL : L = 6) (C0 : lw_At p s m meth c b L xs) (hG : fz_GS (fun q : Nat => s.heap.size ≤ q) s) (k : Nat → ClassId) (hK : va_K D vwCl (fz_tys k) s) (q q2 : Nat → Nat) (f f2 : Nat → Nat → Int32) (pa pa2 : Nat → Option Nat) (v v2 : Nat → Int32) (o o2 : Nat) (g : Nat → Int64) (g2 : Nat → UInt64) (hF : fz_LF q2 f pa v f2 pa2 v2) (H : Heap) (locs : List Loc) (hP : va_P D vwCl (fz_WC k q f pa v ++ ([(o, .inl (k 5, 1, .inr (.inl g)))] ++ ([(o2, .inl (k 6, 1, .inr (.inr (.inr (.inl g2)))))] ++ (fz_WM k q2 f2 pa2 v2)))) H) (hD : va_D (fun q : Nat => s.heap.size ≤ q) (fz_WC k q f pa v ++ ([(o, .inl (k 5, 1, .inr (.inl g)))] ++ ([(o2, .inl (k 6, 1, .inr (.inr (.inr (.inl g2)))))] ++ (fz_WM k q2 f2 pa2 v2))))) (hS : va_S (fun q : Nat => s.heap.size ≤ q) s.heap H locs) (ls : Array Slot) (hl : lv_has ls 9 [(5, .int 0), (4, .ref o2), (3, .ref o), (2, .ref (q2 0)), (1, .ref (q 31)), (0, .ref b)]) :
    W p l e room_1 s m #[Value.ref b] below meth c H locs 2000 400000 (lw_Z below #[Value.ref b] s) (F0 m 204 ls []) := by
  obtain ⟨g_v_0, g_v_1, g_v_2, g_v_3, g_v_4, g_v_5, g_v_6, g_v_7, g_v_8, g_v_9, g_v_10, g_v_11, g_v_12, g_v_13, g_v_14, g_v_15, g_v_17, g_f_2_0, g_f_4_0, g_f_5_0, g_f_6_0, g_f_7_0, g_f_8_0, g_f_9_0, g_f_11_0, g_f_18_0, g_f_19_0, g_pa_0, g_pa_1, g_pa_8, n_v_0, n_v_5, n_v_6, n_v_7, n_v_8, n_v_9, n_v_10, n_v_11, n_v_12, n_v_13, n_v_15, n_v_16, n_v_17, n_v_18, n_v_19, n_v_21, n_f_1_0, n_f_1_1, n_f_1_2, n_f_1_3, n_f_1_4, n_f_1_5, n_f_1_6, n_f_1_7, n_f_1_8, n_f_1_9, n_f_1_10, n_f_1_11, n_f_1_12, n_f_1_13, n_f_1_15, n_f_1_16, n_f_1_17, n_pb_0⟩ := hF
  obtain ⟨hx, hb, hr, hml, hown, hts, hX, hbl, hlocks, hgv⟩ := id C0
  subst hL
  have hL : (6 : Nat) = 6 := rfl
  have hA : ∀ q : Nat, s.heap.size ≤ q → (fun q : Nat => s.heap.size ≤ q) q := fun _ h => h
  have hbA : ¬ (fun q : Nat => s.heap.size ≤ q) b := Nat.not_le.mpr hbl
  have hts9 := fz_hts9 hts
  have hown : s.vm.findClass RL = some m.cls := hown
  have S0 : CallFix p m c code 9 s #[Value.ref b] (Cond.initialized RL :: fz_WA) RL := ⟨hx, hb, hml, hown, hts9⟩
  obtain ⟨x1, ex1⟩ : ∃ z, z = xs 1 := ⟨_, rfl⟩
  obtain ⟨x2, ex2⟩ : ∃ z, z = xs 2 := ⟨_, rfl⟩
  obtain ⟨x3, ex3⟩ : ∃ z, z = xs 3 := ⟨_, rfl⟩
  obtain ⟨x4, ex4⟩ : ∃ z, z = xs 4 := ⟨_, rfl⟩
  obtain ⟨x5, ex5⟩ : ∃ z, z = xs 5 := ⟨_, rfl⟩
  refine lv_aload_n hx hb dL_law_204 rfl (lv_at hl 4 rfl) ?_
  refine lv_aload_n hx hb dL_law_205 rfl (lv_at hl 5 rfl) ?_
  refine lv_iload hx hb dL_law_206 (lv_at hl 0 rfl) ?_
  refine lv_iconst (v := 1) hx hb dL_law_208 (by decide) ?_
  refine lv_iadd hx hb dL_law_209 ?_
  refine fz_I (y := 1) (by decide) ?_
  refine va_sld hx hb hX hbl hbA hS (fz_vin (by decide)) dL_law_210 ?_
  refine fz_I (y := x1) ex1.symm ?_
  refine lv_aload_n hx hb dL_law_211 rfl (lv_at hl 5 rfl) ?_
  refine lv_iload hx hb dL_law_212 (lv_at hl 0 rfl) ?_
  refine lv_iconst (v := 2) hx hb dL_law_214 (by decide) ?_
  refine lv_iadd hx hb dL_law_215 ?_
  refine fz_I (y := 2) (by decide) ?_
  refine va_sld hx hb hX hbl hbA hS (fz_vin (by decide)) dL_law_216 ?_
  refine fz_I (y := x2) ex2.symm ?_
  refine lv_aload_n hx hb dL_law_217 rfl (lv_at hl 5 rfl) ?_
  refine lv_iload hx hb dL_law_218 (lv_at hl 0 rfl) ?_
  refine lv_iconst (v := 3) hx hb dL_law_220 (by decide) ?_
  refine lv_iadd hx hb dL_law_221 ?_
  refine fz_I (y := 3) (by decide) ?_
  refine va_sld hx hb hX hbl hbA hS (fz_vin (by decide)) dL_law_222 ?_
  refine fz_I (y := x3) ex3.symm ?_
  refine lv_aload_n hx hb dL_law_223 rfl (lv_at hl 5 rfl) ?_
  refine lv_iload hx hb dL_law_224 (lv_at hl 0 rfl) ?_
  refine lv_iconst (v := 4) hx hb dL_law_226 (by decide) ?_
  refine lv_iadd hx hb dL_law_227 ?_
  refine fz_I (y := 4) (by decide) ?_
  refine va_sld hx hb hX hbl hbA hS (fz_vin (by decide)) dL_law_228 ?_
  refine fz_I (y := x4) ex4.symm ?_
  refine lv_aload_n hx hb dL_law_229 rfl (lv_at hl 5 rfl) ?_
  refine lv_iload hx hb dL_law_230 (lv_at hl 0 rfl) ?_
  refine lv_iconst (v := 5) hx hb dL_law_232 (by decide) ?_
  refine lv_iadd hx hb dL_law_233 ?_
  refine fz_I (y := 5) (by decide) ?_
  refine va_sld hx hb hX hbl hbA hS (fz_vin (by decide)) dL_law_234 ?_
  refine fz_I (y := x5) ex5.symm ?_
  refine lv_aload_n hx hb dL_law_235 rfl (lv_at hl 2 rfl) ?_
  have hPc := hP.sub (ws' := (fz_WC k q f pa v ++ ([(o, .inl (k 5, 1, .inr (.inl g)))]))) [0, 1, 2, 3, 4, 5, 6, 7, 8, 9, 10, 11, 12, 13, 14, 15, 16, 17, 18, 19, 20, 21, 22, 23, 24, 25, 26, 27, 28, 29, 30, 31, 32, 33, 34, 35, 36, 37, 38] rfl
  have hDc : va_D (va_A (fz_WC k q f pa v ++ ([(o, .inl (k 5, 1, .inr (.inl g)))])) H.size) (fz_WC k q f pa v ++ ([(o, .inl (k 5, 1, .inr (.inl g)))])) := (hD.sub (ws' := (fz_WC k q f pa v ++ ([(o, .inl (k 5, 1, .inr (.inl g)))]))) [0, 1, 2, 3, 4, 5, 6, 7, 8, 9, 10, 11, 12, 13, 14, 15, 16, 17, 18, 19, 20, 21, 22, 23, 24, 25, 26, 27, 28, 29, 30, 31, 32, 33, 34, 35, 36, 37, 38] (by decide) rfl).self
  have hFc := va_free (wc := (fz_WC k q f pa v ++ ([(o, .inl (k 5, 1, .inr (.inl g)))]))) hD hS hA [0, 1, 2, 3, 4, 5, 6, 7, 8, 9, 10, 11, 12, 13, 14, 15, 16, 17, 18, 19, 20, 21, 22, 23, 24, 25, 26, 27, 28, 29, 30, 31, 32, 33, 34, 35, 36, 37, 38] rfl
  refine fz_hSi (As := [.ref (q 31), .int x1, .int x2, .int x3, .int x4, .int x5, .ref o]) (rest := []) S0 (h_add l hl0 (va_A (fz_WC k q f pa v ++ ([(o, .inl (k 5, 1, .inr (.inl g)))])) H.size) D k q f pa v o g x1 x2 x3 x4 x5 g_v_1 g_f_4_0 g_v_9 g_v_2 g_v_3 g_v_4 g_v_5 g_v_6 g_v_7 g_v_8 g_v_0 g_v_10 g_pa_1 g_f_6_0 g_f_5_0) (vx_cwSW 7 hts9 (fz_gSW fm_648 fm_817 fm_818 fm_816) rfl rfl rfl ⟨by decide, by decide, by decide +kernel⟩ ⟨Nat.le_of_ble_eq_true rfl, Nat.le_of_ble_eq_true rfl⟩) hFc (fun a9 h9 => Or.inr h9) hG hS hPc hK hDc rfl hl.1 rfl (Nat.le_of_ble_eq_true rfl) dL_law_236 ⟨Nat.le_of_ble_eq_true rfl, Nat.le_of_ble_eq_true rfl⟩ (fun r_1 u_1 H locs hw hz1 hk1 hP1 hS => ?_)
  obtain ⟨hP, hD⟩ := va_join (wr := ([(o2, .inl (k 6, 1, .inr (.inr (.inr (.inl g2)))))] ++ (fz_WM k q2 f2 pa2 v2))) (w1 := ([(o, .inl (k 5, 1, .inr (.inl u_1)))])) hP hD [0, 1, 2, 3, 4, 5, 6, 7, 8, 9, 10, 11, 12, 13, 14, 15, 16, 17, 18, 19, 20, 21, 22, 23, 24, 25, 26, 27, 28, 29, 30, 31, 32, 33, 34, 35, 36, 37, 38] [39, 40, 41, 42, 43, 44, 45, 46, 47] rfl rfl (by decide) (by decide) hk1 hFc hP1 (fz_Dsame (hDc.sub (ws' := [(o, .inl (k 5, 1, .inr (.inl g)))]) [38] (by decide) rfl) rfl)
  have hP : va_P D vwCl ([(o2, .inl (k 6, 1, .inr (.inr (.inr (.inl g2)))))] ++ (fz_WM k q2 f2 pa2 v2 ++ ([(o, .inl (k 5, 1, .inr (.inl u_1)))]))) H := hP
  have hD : va_D (fun q : Nat => s.heap.size ≤ q) ([(o2, .inl (k 6, 1, .inr (.inr (.inr (.inl g2)))))] ++ (fz_WM k q2 f2 pa2 v2 ++ ([(o, .inl (k 5, 1, .inr (.inl u_1)))]))) := hD
  rcases hw with ⟨rfl, hu_1, hc_1⟩ | ⟨rfl, hc_1⟩ | ⟨rfl, hc_1⟩ | ⟨rfl, hc_1⟩
  · skip
    obtain rfl : x1 = 0 := (fq_130 x1 x2 x3 x4 x5 hc_1)
    refine lv_istore (lv' := [(6, .int 0), (5, .int 0), (4, .ref o2), (3, .ref o), (2, .ref (q2 0)), (1, .ref (q 31)), (0, .ref b)]) hx hb dL_law_239 hl (by decide) rfl (fun ls hl => ?_)
    refine lv_aload_n hx hb dL_law_241 rfl (lv_at hl 4 rfl) ?_
    refine lv_aload_n hx hb dL_law_242 rfl (lv_at hl 6 rfl) ?_
    refine lv_iload hx hb dL_law_243 (lv_at hl 1 rfl) ?_
    refine lv_iconst (v := 1) hx hb dL_law_245 (by decide) ?_
    refine lv_iadd hx hb dL_law_246 ?_
    refine fz_I (y := 1) (by decide) ?_
    refine va_sld hx hb hX hbl hbA hS (fz_vin (by decide)) dL_law_247 ?_
    refine fz_I (y := 0) ex1.symm ?_
    refine lv_aload_n hx hb dL_law_248 rfl (lv_at hl 6 rfl) ?_
    refine lv_iload hx hb dL_law_249 (lv_at hl 1 rfl) ?_
    refine lv_iconst (v := 2) hx hb dL_law_251 (by decide) ?_
    refine lv_iadd hx hb dL_law_252 ?_
    refine fz_I (y := 2) (by decide) ?_
    refine va_sld hx hb hX hbl hbA hS (fz_vin (by decide)) dL_law_253 ?_
    refine fz_I (y := x2) ex2.symm ?_
    refine lv_aload_n hx hb dL_law_254 rfl (lv_at hl 6 rfl) ?_
    refine lv_iload hx hb dL_law_255 (lv_at hl 1 rfl) ?_
    refine lv_iconst (v := 3) hx hb dL_law_257 (by decide) ?_
    refine lv_iadd hx hb dL_law_258 ?_
    refine fz_I (y := 3) (by decide) ?_
    refine va_sld hx hb hX hbl hbA hS (fz_vin (by decide)) dL_law_259 ?_
    refine fz_I (y := x3) ex3.symm ?_
    refine lv_aload_n hx hb dL_law_260 rfl (lv_at hl 6 rfl) ?_
    refine lv_iload hx hb dL_law_261 (lv_at hl 1 rfl) ?_
    refine lv_iconst (v := 4) hx hb dL_law_263 (by decide) ?_
    refine lv_iadd hx hb dL_law_264 ?_
    refine fz_I (y := 4) (by decide) ?_
    refine va_sld hx hb hX hbl hbA hS (fz_vin (by decide)) dL_law_265 ?_
    refine fz_I (y := x4) ex4.symm ?_
    refine lv_aload_n hx hb dL_law_266 rfl (lv_at hl 6 rfl) ?_
    refine lv_iload hx hb dL_law_267 (lv_at hl 1 rfl) ?_
    refine lv_iconst (v := 5) hx hb dL_law_269 (by decide) ?_
    refine lv_iadd hx hb dL_law_270 ?_
    refine fz_I (y := 5) (by decide) ?_
    refine va_sld hx hb hX hbl hbA hS (fz_vin (by decide)) dL_law_271 ?_
    refine fz_I (y := x5) ex5.symm ?_
    have hPc := hP.sub (ws' := (fz_WM k q2 f2 pa2 v2)) [1, 2, 3, 4, 5, 6, 7, 8] rfl
    have hDc : va_D (va_A (fz_WM k q2 f2 pa2 v2) H.size) (fz_WM k q2 f2 pa2 v2) := (hD.sub (ws' := (fz_WM k q2 f2 pa2 v2)) [1, 2, 3, 4, 5, 6, 7, 8] (by decide) rfl).self
    have hFc := va_free (wc := (fz_WM k q2 f2 pa2 v2)) hD hS hA [1, 2, 3, 4, 5, 6, 7, 8] rfl
    refine fz_cVi (As := [.int 0, .int x2, .int x3, .int x4, .int x5]) (rest := []) S0 (m_p_add l (va_A (fz_WM k q2 f2 pa2 v2) H.size) D k q2 f2 pa2 v2 0 x2 x3 x4 x5 n_f_1_0 n_f_1_7 n_f_1_8 n_v_5 n_pb_0 n_f_1_1) (fz_cwV (C := RX10) 5 hts9 fm_819 fm_820 fm_821 fm_822 fm_469 rfl rfl ⟨by decide, by decide, by decide +kernel⟩ ⟨Nat.le_of_ble_eq_true rfl, Nat.le_of_ble_eq_true rfl⟩) (va_recv hK hPc (ci := 14) (q0 := 0) rfl rfl) hFc (fun a9 h9 => Or.inr h9) hG hS hPc hK hDc rfl hl.1 rfl (Nat.le_of_ble_eq_true rfl) dL_law_272 ⟨Nat.le_of_ble_eq_true rfl, Nat.le_of_ble_eq_true rfl⟩ (fun r_2 u_2 H locs hw hz1 hk1 hP1 hS => ?_)
    obtain ⟨hP, hD⟩ := va_join (wr := ([(o2, .inl (k 6, 1, .inr (.inr (.inr (.inl g2)))))] ++ ([(o, .inl (k 5, 1, .inr (.inl u_1)))]))) (w1 := (fz_MO q2 u_2)) hP hD [1, 2, 3, 4, 5, 6, 7, 8] [0, 9] rfl rfl (by decide) (by decide) hk1 hFc hP1 (fz_Dsame (hDc.sub (ws' := fz_MO q2 v2) [0] (by decide) rfl) rfl)
    have hP : va_P D vwCl ([(o2, .inl (k 6, 1, .inr (.inr (.inr (.inl g2)))))] ++ ([(o, .inl (k 5, 1, .inr (.inl u_1)))] ++ (fz_MO q2 u_2))) H := hP
    have hD : va_D (fun q : Nat => s.heap.size ≤ q) ([(o2, .inl (k 6, 1, .inr (.inr (.inr (.inl g2)))))] ++ ([(o, .inl (k 5, 1, .inr (.inl u_1)))] ++ (fz_MO q2 u_2))) := hD
    rcases hw with ⟨rfl, ht_2, hc_2⟩ | ⟨rfl, ht_2, hc_2⟩ | ⟨rfl, ht_2, hc_2⟩
    · skip
      exact (fq_112 hc_2).elim
    · skip
      exact (fq_131 x2 x3 x4 x5 hc_1 hc_2).elim
    · skip
      refine lv_istore (lv' := [(7, .int 1), (6, .int 0), (5, .int 0), (4, .ref o2), (3, .ref o), (2, .ref (q2 0)), (1, .ref (q 31)), (0, .ref b)]) hx hb dL_law_275 hl (by decide) rfl (fun ls hl => ?_)
      refine lv_aload_n hx hb dL_law_277 rfl (lv_at hl 5 rfl) ?_
      have hPc := hP.sub (ws' := (fz_MO q2 u_2)) [2] rfl
      have hDc : va_D (va_A (fz_MO q2 u_2) H.size) (fz_MO q2 u_2) := (hD.sub (ws' := (fz_MO q2 u_2)) [2] (by decide) rfl).self
      have hFc := va_free (wc := (fz_MO q2 u_2)) hD hS hA [2] rfl
      refine fz_cVi (As := []) (rest := []) S0 (m_thrown l (va_A (fz_MO q2 u_2) H.size) D k q2 u_2) (fz_cwV (C := RX10) 0 hts9 fm_823 fm_824 fm_825 fm_826 fm_469 rfl rfl ⟨by decide, by decide, by decide +kernel⟩ ⟨Nat.le_of_ble_eq_true rfl, Nat.le_of_ble_eq_true rfl⟩) (va_recv hK hPc (ci := 14) (q0 := 0) rfl rfl) hFc (fun a9 h9 => Or.inr h9) hG hS hPc hK hDc rfl hl.1 rfl (Nat.le_of_ble_eq_true rfl) dL_law_278 ⟨Nat.le_of_ble_eq_true rfl, Nat.le_of_ble_eq_true rfl⟩ (fun r_3 u_3 H locs hw hz1 hk1 hP1 hS => ?_)
      obtain ⟨hP, hD⟩ := va_join (wr := ([(o2, .inl (k 6, 1, .inr (.inr (.inr (.inl g2)))))] ++ ([(o, .inl (k 5, 1, .inr (.inl u_1)))]))) (w1 := (fz_MO q2 u_2)) hP hD [2] [0, 1] rfl rfl (by decide) (by decide) hk1 hFc hP1 hDc
      have hP : va_P D vwCl ([(o2, .inl (k 6, 1, .inr (.inr (.inr (.inl g2)))))] ++ ([(o, .inl (k 5, 1, .inr (.inl u_1)))] ++ (fz_MO q2 u_2))) H := hP
      have hD : va_D (fun q : Nat => s.heap.size ≤ q) ([(o2, .inl (k 6, 1, .inr (.inr (.inr (.inl g2)))))] ++ ([(o, .inl (k 5, 1, .inr (.inl u_1)))] ++ (fz_MO q2 u_2))) := hD
      obtain rfl : r_3 = u_2 0 := hw
      refine fz_I (y := 0) ht_2 ?_
      refine lv_iload hx hb dL_law_281 (lv_at hl 1 rfl) ?_
      refine lv_icmp_eq (tgt := 288) hx hb dL_law_283 (by decide) (fun c9 => ?_) (fun c9 => absurd (by decide) c9)
      refine lv_iload hx hb dL_law_288 (lv_at hl 1 rfl) ?_
      refine lv_if_ne (tgt := 305) hx hb dL_law_290 (by decide) (fun c9 => absurd (by decide) c9) (fun c9 => ?_)
      refine lv_aload_n hx hb dL_law_293 rfl (lv_at hl 4 rfl) ?_
      refine lv_iconst (v := 0) hx hb dL_law_294 (by decide) ?_
      refine va_lald hx hb hK hP 1 5 rfl rfl (fz_vin (by decide)) dL_law_295 ?_
      refine fz_V (y := .long ((1 : Int32).toInt64)) (congrArg Value.long hu_1) ?_
      refine lv_iload hx hb dL_law_296 (lv_at hl 0 rfl) ?_
      refine lv_i2l (v := (1 : Int32).toInt64) hx hb dL_law_298 rfl ?_
      refine W.lcmp hx hb dL_law_299 ?_
      refine fz_I (y := 0) (by decide) ?_
      refine lv_if_eq (tgt := 305) hx hb dL_law_300 (by decide) (fun c9 => ?_) (fun c9 => absurd (by decide) c9)
      refine lv_goto (tgt := 2457) hx hb dL_law_305 (by decide) ?_
      exact lw_tail hL C0 (Nat.le_of_ble_eq_true rfl) (Nat.le_of_ble_eq_true rfl) hS ls (lv_sub hl [2, 7] rfl)
  · skip
    refine lv_istore (lv' := [(6, .int 1), (5, .int 0), (4, .ref o2), (3, .ref o), (2, .ref (q2 0)), (1, .ref (q 31)), (0, .ref b)]) hx hb dL_law_239 hl (by decide) rfl (fun ls hl => ?_)
    refine lv_aload_n hx hb dL_law_241 rfl (lv_at hl 4 rfl) ?_
    refine lv_aload_n hx hb dL_law_242 rfl (lv_at hl 6 rfl) ?_
    refine lv_iload hx hb dL_law_243 (lv_at hl 1 rfl) ?_
    refine lv_iconst (v := 1) hx hb dL_law_245 (by decide) ?_
    refine lv_iadd hx hb dL_law_246 ?_
    refine fz_I (y := 1) (by decide) ?_
    refine va_sld hx hb hX hbl hbA hS (fz_vin (by decide)) dL_law_247 ?_
    refine fz_I (y := x1) ex1.symm ?_
    refine lv_aload_n hx hb dL_law_248 rfl (lv_at hl 6 rfl) ?_
    refine lv_iload hx hb dL_law_249 (lv_at hl 1 rfl) ?_
    refine lv_iconst (v := 2) hx hb dL_law_251 (by decide) ?_
    refine lv_iadd hx hb dL_law_252 ?_
    refine fz_I (y := 2) (by decide) ?_
    refine va_sld hx hb hX hbl hbA hS (fz_vin (by decide)) dL_law_253 ?_
    refine fz_I (y := x2) ex2.symm ?_
    refine lv_aload_n hx hb dL_law_254 rfl (lv_at hl 6 rfl) ?_
    refine lv_iload hx hb dL_law_255 (lv_at hl 1 rfl) ?_
    refine lv_iconst (v := 3) hx hb dL_law_257 (by decide) ?_
    refine lv_iadd hx hb dL_law_258 ?_
    refine fz_I (y := 3) (by decide) ?_
    refine va_sld hx hb hX hbl hbA hS (fz_vin (by decide)) dL_law_259 ?_
    refine fz_I (y := x3) ex3.symm ?_
    refine lv_aload_n hx hb dL_law_260 rfl (lv_at hl 6 rfl) ?_
    refine lv_iload hx hb dL_law_261 (lv_at hl 1 rfl) ?_
    refine lv_iconst (v := 4) hx hb dL_law_263 (by decide) ?_
    refine lv_iadd hx hb dL_law_264 ?_
    refine fz_I (y := 4) (by decide) ?_
    refine va_sld hx hb hX hbl hbA hS (fz_vin (by decide)) dL_law_265 ?_
    refine fz_I (y := x4) ex4.symm ?_
    refine lv_aload_n hx hb dL_law_266 rfl (lv_at hl 6 rfl) ?_
    refine lv_iload hx hb dL_law_267 (lv_at hl 1 rfl) ?_
    refine lv_iconst (v := 5) hx hb dL_law_269 (by decide) ?_
    refine lv_iadd hx hb dL_law_270 ?_
    refine fz_I (y := 5) (by decide) ?_
    refine va_sld hx hb hX hbl hbA hS (fz_vin (by decide)) dL_law_271 ?_
    refine fz_I (y := x5) ex5.symm ?_
    have hPc := hP.sub (ws' := (fz_WM k q2 f2 pa2 v2)) [1, 2, 3, 4, 5, 6, 7, 8] rfl
    have hDc : va_D (va_A (fz_WM k q2 f2 pa2 v2) H.size) (fz_WM k q2 f2 pa2 v2) := (hD.sub (ws' := (fz_WM k q2 f2 pa2 v2)) [1, 2, 3, 4, 5, 6, 7, 8] (by decide) rfl).self
    have hFc := va_free (wc := (fz_WM k q2 f2 pa2 v2)) hD hS hA [1, 2, 3, 4, 5, 6, 7, 8] rfl
    refine fz_cVi (As := [.int x1, .int x2, .int x3, .int x4, .int x5]) (rest := []) S0 (m_p_add l (va_A (fz_WM k q2 f2 pa2 v2) H.size) D k q2 f2 pa2 v2 x1 x2 x3 x4 x5 n_f_1_0 n_f_1_7 n_f_1_8 n_v_5 n_pb_0 n_f_1_1) (fz_cwV (C := RX10) 5 hts9 fm_819 fm_820 fm_821 fm_822 fm_469 rfl rfl ⟨by decide, by decide, by decide +kernel⟩ ⟨Nat.le_of_ble_eq_true rfl, Nat.le_of_ble_eq_true rfl⟩) (va_recv hK hPc (ci := 14) (q0 := 0) rfl rfl) hFc (fun a9 h9 => Or.inr h9) hG hS hPc hK hDc rfl hl.1 rfl (Nat.le_of_ble_eq_true rfl) dL_law_272 ⟨Nat.le_of_ble_eq_true rfl, Nat.le_of_ble_eq_true rfl⟩ (fun r_2 u_2 H locs hw hz1 hk1 hP1 hS => ?_)
    obtain ⟨hP, hD⟩ := va_join (wr := ([(o2, .inl (k 6, 1, .inr (.inr (.inr (.inl g2)))))] ++ ([(o, .inl (k 5, 1, .inr (.inl u_1)))]))) (w1 := (fz_MO q2 u_2)) hP hD [1, 2, 3, 4, 5, 6, 7, 8] [0, 9] rfl rfl (by decide) (by decide) hk1 hFc hP1 (fz_Dsame (hDc.sub (ws' := fz_MO q2 v2) [0] (by decide) rfl) rfl)
    have hP : va_P D vwCl ([(o2, .inl (k 6, 1, .inr (.inr (.inr (.inl g2)))))] ++ ([(o, .inl (k 5, 1, .inr (.inl u_1)))] ++ (fz_MO q2 u_2))) H := hP
    have hD : va_D (fun q : Nat => s.heap.size ≤ q) ([(o2, .inl (k 6, 1, .inr (.inr (.inr (.inl g2)))))] ++ ([(o, .inl (k 5, 1, .inr (.inl u_1)))] ++ (fz_MO q2 u_2))) := hD
    rcases hw with ⟨rfl, ht_2, hc_2⟩ | ⟨rfl, ht_2, hc_2⟩ | ⟨rfl, ht_2, hc_2⟩
    · skip
      refine lv_istore (lv' := [(7, .int 0), (6, .int 1), (5, .int 0), (4, .ref o2), (3, .ref o), (2, .ref (q2 0)), (1, .ref (q 31)), (0, .ref b)]) hx hb dL_law_275 hl (by decide) rfl (fun ls hl => ?_)
      refine lv_aload_n hx hb dL_law_277 rfl (lv_at hl 5 rfl) ?_
      have hPc := hP.sub (ws' := (fz_MO q2 u_2)) [2] rfl
      have hDc : va_D (va_A (fz_MO q2 u_2) H.size) (fz_MO q2 u_2) := (hD.sub (ws' := (fz_MO q2 u_2)) [2] (by decide) rfl).self
      have hFc := va_free (wc := (fz_MO q2 u_2)) hD hS hA [2] rfl
      refine fz_cVi (As := []) (rest := []) S0 (m_thrown l (va_A (fz_MO q2 u_2) H.size) D k q2 u_2) (fz_cwV (C := RX10) 0 hts9 fm_823 fm_824 fm_825 fm_826 fm_469 rfl rfl ⟨by decide, by decide, by decide +kernel⟩ ⟨Nat.le_of_ble_eq_true rfl, Nat.le_of_ble_eq_true rfl⟩) (va_recv hK hPc (ci := 14) (q0 := 0) rfl rfl) hFc (fun a9 h9 => Or.inr h9) hG hS hPc hK hDc rfl hl.1 rfl (Nat.le_of_ble_eq_true rfl) dL_law_278 ⟨Nat.le_of_ble_eq_true rfl, Nat.le_of_ble_eq_true rfl⟩ (fun r_3 u_3 H locs hw hz1 hk1 hP1 hS => ?_)
      obtain ⟨hP, hD⟩ := va_join (wr := ([(o2, .inl (k 6, 1, .inr (.inr (.inr (.inl g2)))))] ++ ([(o, .inl (k 5, 1, .inr (.inl u_1)))]))) (w1 := (fz_MO q2 u_2)) hP hD [2] [0, 1] rfl rfl (by decide) (by decide) hk1 hFc hP1 hDc
      have hP : va_P D vwCl ([(o2, .inl (k 6, 1, .inr (.inr (.inr (.inl g2)))))] ++ ([(o, .inl (k 5, 1, .inr (.inl u_1)))] ++ (fz_MO q2 u_2))) H := hP
      have hD : va_D (fun q : Nat => s.heap.size ≤ q) ([(o2, .inl (k 6, 1, .inr (.inr (.inr (.inl g2)))))] ++ ([(o, .inl (k 5, 1, .inr (.inl u_1)))] ++ (fz_MO q2 u_2))) := hD
      obtain rfl : r_3 = u_2 0 := hw
      refine fz_I (y := 1) ht_2 ?_
      refine lv_iload hx hb dL_law_281 (lv_at hl 1 rfl) ?_
      refine lv_icmp_eq (tgt := 288) hx hb dL_law_283 (by decide) (fun c9 => ?_) (fun c9 => absurd (by decide) c9)
      refine lv_iload hx hb dL_law_288 (lv_at hl 1 rfl) ?_
      refine lv_if_ne (tgt := 305) hx hb dL_law_290 (by decide) (fun c9 => ?_) (fun c9 => absurd c9 (by decide))
      refine lv_goto (tgt := 2457) hx hb dL_law_305 (by decide) ?_
      exact lw_tail hL C0 (Nat.le_of_ble_eq_true rfl) (Nat.le_of_ble_eq_true rfl) hS ls (lv_sub hl [2, 7] rfl)
    · skip
      exact (fq_132 x1 x2 x3 x4 x5 hc_1 hc_2).elim
    · skip
      exact (fq_133 x1 x2 x3 x4 x5 hc_1 hc_2).elim
  · skip
    obtain rfl : x1 = 0 := (fq_134 x1 x2 x3 x4 x5 hc_1)
    refine lv_istore (lv' := [(6, .int 2), (5, .int 0), (4, .ref o2), (3, .ref o), (2, .ref (q2 0)), (1, .ref (q 31)), (0, .ref b)]) hx hb dL_law_239 hl (by decide) rfl (fun ls hl => ?_)
    refine lv_aload_n hx hb dL_law_241 rfl (lv_at hl 4 rfl) ?_
    refine lv_aload_n hx hb dL_law_242 rfl (lv_at hl 6 rfl) ?_
    refine lv_iload hx hb dL_law_243 (lv_at hl 1 rfl) ?_
    refine lv_iconst (v := 1) hx hb dL_law_245 (by decide) ?_
    refine lv_iadd hx hb dL_law_246 ?_
    refine fz_I (y := 1) (by decide) ?_
    refine va_sld hx hb hX hbl hbA hS (fz_vin (by decide)) dL_law_247 ?_
    refine fz_I (y := 0) ex1.symm ?_
    refine lv_aload_n hx hb dL_law_248 rfl (lv_at hl 6 rfl) ?_
    refine lv_iload hx hb dL_law_249 (lv_at hl 1 rfl) ?_
    refine lv_iconst (v := 2) hx hb dL_law_251 (by decide) ?_
    refine lv_iadd hx hb dL_law_252 ?_
    refine fz_I (y := 2) (by decide) ?_
    refine va_sld hx hb hX hbl hbA hS (fz_vin (by decide)) dL_law_253 ?_
    refine fz_I (y := x2) ex2.symm ?_
    refine lv_aload_n hx hb dL_law_254 rfl (lv_at hl 6 rfl) ?_
    refine lv_iload hx hb dL_law_255 (lv_at hl 1 rfl) ?_
    refine lv_iconst (v := 3) hx hb dL_law_257 (by decide) ?_
    refine lv_iadd hx hb dL_law_258 ?_
    refine fz_I (y := 3) (by decide) ?_
    refine va_sld hx hb hX hbl hbA hS (fz_vin (by decide)) dL_law_259 ?_
    refine fz_I (y := x3) ex3.symm ?_
    refine lv_aload_n hx hb dL_law_260 rfl (lv_at hl 6 rfl) ?_
    refine lv_iload hx hb dL_law_261 (lv_at hl 1 rfl) ?_
    refine lv_iconst (v := 4) hx hb dL_law_263 (by decide) ?_
    refine lv_iadd hx hb dL_law_264 ?_
    refine fz_I (y := 4) (by decide) ?_
    refine va_sld hx hb hX hbl hbA hS (fz_vin (by decide)) dL_law_265 ?_
    refine fz_I (y := x4) ex4.symm ?_
    refine lv_aload_n hx hb dL_law_266 rfl (lv_at hl 6 rfl) ?_
    refine lv_iload hx hb dL_law_267 (lv_at hl 1 rfl) ?_
    refine lv_iconst (v := 5) hx hb dL_law_269 (by decide) ?_
    refine lv_iadd hx hb dL_law_270 ?_
    refine fz_I (y := 5) (by decide) ?_
    refine va_sld hx hb hX hbl hbA hS (fz_vin (by decide)) dL_law_271 ?_
    refine fz_I (y := x5) ex5.symm ?_
    have hPc := hP.sub (ws' := (fz_WM k q2 f2 pa2 v2)) [1, 2, 3, 4, 5, 6, 7, 8] rfl
    have hDc : va_D (va_A (fz_WM k q2 f2 pa2 v2) H.size) (fz_WM k q2 f2 pa2 v2) := (hD.sub (ws' := (fz_WM k q2 f2 pa2 v2)) [1, 2, 3, 4, 5, 6, 7, 8] (by decide) rfl).self
    have hFc := va_free (wc := (fz_WM k q2 f2 pa2 v2)) hD hS hA [1, 2, 3, 4, 5, 6, 7, 8] rfl
    refine fz_cVi (As := [.int 0, .int x2, .int x3, .int x4, .int x5]) (rest := []) S0 (m_p_add l (va_A (fz_WM k q2 f2 pa2 v2) H.size) D k q2 f2 pa2 v2 0 x2 x3 x4 x5 n_f_1_0 n_f_1_7 n_f_1_8 n_v_5 n_pb_0 n_f_1_1) (fz_cwV (C := RX10) 5 hts9 fm_819 fm_820 fm_821 fm_822 fm_469 rfl rfl ⟨by decide, by decide, by decide +kernel⟩ ⟨Nat.le_of_ble_eq_true rfl, Nat.le_of_ble_eq_true rfl⟩) (va_recv hK hPc (ci := 14) (q0 := 0) rfl rfl) hFc (fun a9 h9 => Or.inr h9) hG hS hPc hK hDc rfl hl.1 rfl (Nat.le_of_ble_eq_true rfl) dL_law_272 ⟨Nat.le_of_ble_eq_true rfl, Nat.le_of_ble_eq_true rfl⟩ (fun r_2 u_2 H locs hw hz1 hk1 hP1 hS => ?_)
    obtain ⟨hP, hD⟩ := va_join (wr := ([(o2, .inl (k 6, 1, .inr (.inr (.inr (.inl g2)))))] ++ ([(o, .inl (k 5, 1, .inr (.inl u_1)))]))) (w1 := (fz_MO q2 u_2)) hP hD [1, 2, 3, 4, 5, 6, 7, 8] [0, 9] rfl rfl (by decide) (by decide) hk1 hFc hP1 (fz_Dsame (hDc.sub (ws' := fz_MO q2 v2) [0] (by decide) rfl) rfl)
    have hP : va_P D vwCl ([(o2, .inl (k 6, 1, .inr (.inr (.inr (.inl g2)))))] ++ ([(o, .inl (k 5, 1, .inr (.inl u_1)))] ++ (fz_MO q2 u_2))) H := hP
    have hD : va_D (fun q : Nat => s.heap.size ≤ q) ([(o2, .inl (k 6, 1, .inr (.inr (.inr (.inl g2)))))] ++ ([(o, .inl (k 5, 1, .inr (.inl u_1)))] ++ (fz_MO q2 u_2))) := hD
    rcases hw with ⟨rfl, ht_2, hc_2⟩ | ⟨rfl, ht_2, hc_2⟩ | ⟨rfl, ht_2, hc_2⟩
    · skip
      exact (fq_112 hc_2).elim
    · skip
      refine lv_istore (lv' := [(7, .int 0), (6, .int 2), (5, .int 0), (4, .ref o2), (3, .ref o), (2, .ref (q2 0)), (1, .ref (q 31)), (0, .ref b)]) hx hb dL_law_275 hl (by decide) rfl (fun ls hl => ?_)
      refine lv_aload_n hx hb dL_law_277 rfl (lv_at hl 5 rfl) ?_
      have hPc := hP.sub (ws' := (fz_MO q2 u_2)) [2] rfl
      have hDc : va_D (va_A (fz_MO q2 u_2) H.size) (fz_MO q2 u_2) := (hD.sub (ws' := (fz_MO q2 u_2)) [2] (by decide) rfl).self
      have hFc := va_free (wc := (fz_MO q2 u_2)) hD hS hA [2] rfl
      refine fz_cVi (As := []) (rest := []) S0 (m_thrown l (va_A (fz_MO q2 u_2) H.size) D k q2 u_2) (fz_cwV (C := RX10) 0 hts9 fm_823 fm_824 fm_825 fm_826 fm_469 rfl rfl ⟨by decide, by decide, by decide +kernel⟩ ⟨Nat.le_of_ble_eq_true rfl, Nat.le_of_ble_eq_true rfl⟩) (va_recv hK hPc (ci := 14) (q0 := 0) rfl rfl) hFc (fun a9 h9 => Or.inr h9) hG hS hPc hK hDc rfl hl.1 rfl (Nat.le_of_ble_eq_true rfl) dL_law_278 ⟨Nat.le_of_ble_eq_true rfl, Nat.le_of_ble_eq_true rfl⟩ (fun r_3 u_3 H locs hw hz1 hk1 hP1 hS => ?_)
      obtain ⟨hP, hD⟩ := va_join (wr := ([(o2, .inl (k 6, 1, .inr (.inr (.inr (.inl g2)))))] ++ ([(o, .inl (k 5, 1, .inr (.inl u_1)))]))) (w1 := (fz_MO q2 u_2)) hP hD [2] [0, 1] rfl rfl (by decide) (by decide) hk1 hFc hP1 hDc
      have hP : va_P D vwCl ([(o2, .inl (k 6, 1, .inr (.inr (.inr (.inl g2)))))] ++ ([(o, .inl (k 5, 1, .inr (.inl u_1)))] ++ (fz_MO q2 u_2))) H := hP
      have hD : va_D (fun q : Nat => s.heap.size ≤ q) ([(o2, .inl (k 6, 1, .inr (.inr (.inr (.inl g2)))))] ++ ([(o, .inl (k 5, 1, .inr (.inl u_1)))] ++ (fz_MO q2 u_2))) := hD
      obtain rfl : r_3 = u_2 0 := hw
      refine fz_I (y := 2) ht_2 ?_
      refine lv_iload hx hb dL_law_281 (lv_at hl 1 rfl) ?_
      refine lv_icmp_eq (tgt := 288) hx hb dL_law_283 (by decide) (fun c9 => ?_) (fun c9 => absurd (by decide) c9)
      refine lv_iload hx hb dL_law_288 (lv_at hl 1 rfl) ?_
      refine lv_if_ne (tgt := 305) hx hb dL_law_290 (by decide) (fun c9 => ?_) (fun c9 => absurd c9 (by decide))
      refine lv_goto (tgt := 2457) hx hb dL_law_305 (by decide) ?_
      exact lw_tail hL C0 (Nat.le_of_ble_eq_true rfl) (Nat.le_of_ble_eq_true rfl) hS ls (lv_sub hl [2, 7] rfl)
    · skip
      exact (fq_135 x2 x3 x4 x5 hc_1 hc_2).elim
  · skip
    exact hc_1.elim

set_option maxHeartbeats 8000000 in
set_option maxRecDepth 100000 in
theorem lw_case1 {p : Program} {l : Launch} {e : Env} {s : State} {m : MethodId} {below : List Frame} {meth : Method} {c : Code} {D : va_G} {b L : Nat} {xs : Nat → Int32} (hl0 : l.stackTraces = false) (hL : L = 6) (C0 : lw_At p s m meth c b L xs) (hG : fz_GS (fun q : Nat => s.heap.size ≤ q) s) (k : Nat → ClassId) (hK : va_K D vwCl (fz_tys k) s) (q q2 : Nat → Nat) (f f2 : Nat → Nat → Int32) (pa pa2 : Nat → Option Nat) (v v2 : Nat → Int32) (o o2 : Nat) (g : Nat → Int64) (g2 : Nat → UInt64) (hF : fz_LF q2 f pa v f2 pa2 v2) (H : Heap) (locs : List Loc) (hP : va_P D vwCl (fz_WC k q f pa v ++ ([(o, .inl (k 5, 1, .inr (.inl g)))] ++ ([(o2, .inl (k 6, 1, .inr (.inr (.inr (.inl g2)))))] ++ (fz_WM k q2 f2 pa2 v2)))) H) (hD : va_D (fun q : Nat => s.heap.size ≤ q) (fz_WC k q f pa v ++ ([(o, .inl (k 5, 1, .inr (.inl g)))] ++ ([(o2, .inl (k 6, 1, .inr (.inr (.inr (.inl g2)))))] ++ (fz_WM k q2 f2 pa2 v2))))) (hS : va_S (fun q : Nat => s.heap.size ≤ q) s.heap H locs) (ls : Array Slot) (hl : lv_has ls 9 [(5, .int 0), (4, .ref o2), (3, .ref o), (2, .ref (q2 0)), (1, .ref (q 31)), (0, .ref b)]) :
    W p l e room_1 s m #[Value.ref b] below meth c H locs 2000 400000 (lw_Z below #[Value.ref b] s) (F0 m 308 ls []) := by
  obtain ⟨g_v_0, g_v_1, g_v_2, g_v_3, g_v_4, g_v_5, g_v_6, g_v_7, g_v_8, g_v_9, g_v_10, g_v_11, g_v_12, g_v_13, g_v_14, g_v_15, g_v_17, g_f_2_0, g_f_4_0, g_f_5_0, g_f_6_0, g_f_7_0, g_f_8_0, g_f_9_0, g_f_11_0, g_f_18_0, g_f_19_0, g_pa_0, g_pa_1, g_pa_8, n_v_0, n_v_5, n_v_6, n_v_7, n_v_8, n_v_9, n_v_10, n_v_11, n_v_12, n_v_13, n_v_15, n_v_16, n_v_17, n_v_18, n_v_19, n_v_21, n_f_1_0, n_f_1_1, n_f_1_2, n_f_1_3, n_f_1_4, n_f_1_5, n_f_1_6, n_f_1_7, n_f_1_8, n_f_1_9, n_f_1_10, n_f_1_11, n_f_1_12, n_f_1_13, n_f_1_15, n_f_1_16, n_f_1_17, n_pb_0⟩ := hF
  obtain ⟨hx, hb, hr, hml, hown, hts, hX, hbl, hlocks, hgv⟩ := id C0
  subst hL
  have hL : (6 : Nat) = 6 := rfl
  have hA : ∀ q : Nat, s.heap.size ≤ q → (fun q : Nat => s.heap.size ≤ q) q := fun _ h => h
  have hbA : ¬ (fun q : Nat => s.heap.size ≤ q) b := Nat.not_le.mpr hbl
  have hts9 := fz_hts9 hts
  have hown : s.vm.findClass RL = some m.cls := hown
  have S0 : CallFix p m c code 9 s #[Value.ref b] (Cond.initialized RL :: fz_WA) RL := ⟨hx, hb, hml, hown, hts9⟩
  obtain ⟨x1, ex1⟩ : ∃ z, z = xs 1 := ⟨_, rfl⟩
  obtain ⟨x2, ex2⟩ : ∃ z, z = xs 2 := ⟨_, rfl⟩
  obtain ⟨x3, ex3⟩ : ∃ z, z = xs 3 := ⟨_, rfl⟩
  obtain ⟨x4, ex4⟩ : ∃ z, z = xs 4 := ⟨_, rfl⟩
  obtain ⟨x5, ex5⟩ : ∃ z, z = xs 5 := ⟨_, rfl⟩
  refine lv_aload_n hx hb dL_law_308 rfl (lv_at hl 4 rfl) ?_
  refine lv_aload_n hx hb dL_law_309 rfl (lv_at hl 5 rfl) ?_
  refine lv_iload hx hb dL_law_310 (lv_at hl 0 rfl) ?_
  refine lv_iconst (v := 1) hx hb dL_law_312 (by decide) ?_
  refine lv_iadd hx hb dL_law_313 ?_
  refine fz_I (y := 1) (by decide) ?_
  refine va_sld hx hb hX hbl hbA hS (fz_vin (by decide)) dL_law_314 ?_
  refine fz_I (y := x1) ex1.symm ?_
  refine lv_aload_n hx hb dL_law_315 rfl (lv_at hl 2 rfl) ?_
  have hPc := hP.sub (ws' := (fz_WC k q f pa v ++ ([(o, .inl (k 5, 1, .inr (.inl g)))]))) [0, 1, 2, 3, 4, 5, 6, 7, 8, 9, 10, 11, 12, 13, 14, 15, 16, 17, 18, 19, 20, 21, 22, 23, 24, 25, 26, 27, 28, 29, 30, 31, 32, 33, 34, 35, 36, 37, 38] rfl
  have hDc : va_D (va_A (fz_WC k q f pa v ++ ([(o, .inl (k 5, 1, .inr (.inl g)))])) H.size) (fz_WC k q f pa v ++ ([(o, .inl (k 5, 1, .inr (.inl g)))])) := (hD.sub (ws' := (fz_WC k q f pa v ++ ([(o, .inl (k 5, 1, .inr (.inl g)))]))) [0, 1, 2, 3, 4, 5, 6, 7, 8, 9, 10, 11, 12, 13, 14, 15, 16, 17, 18, 19, 20, 21, 22, 23, 24, 25, 26, 27, 28, 29, 30, 31, 32, 33, 34, 35, 36, 37, 38] (by decide) rfl).self
  have hFc := va_free (wc := (fz_WC k q f pa v ++ ([(o, .inl (k 5, 1, .inr (.inl g)))]))) hD hS hA [0, 1, 2, 3, 4, 5, 6, 7, 8, 9, 10, 11, 12, 13, 14, 15, 16, 17, 18, 19, 20, 21, 22, 23, 24, 25, 26, 27, 28, 29, 30, 31, 32, 33, 34, 35, 36, 37, 38] rfl
  refine fz_hSi (As := [.ref (q 31), .int x1, .ref o]) (rest := []) S0 (h_remove l hl0 (va_A (fz_WC k q f pa v ++ ([(o, .inl (k 5, 1, .inr (.inl g)))])) H.size) D k q f pa v o g x1 g_v_1 g_f_4_0) (vx_cwSW 3 hts9 (fz_gSW fm_657 fm_827 fm_828 fm_816) rfl rfl rfl ⟨by decide, by decide, by decide +kernel⟩ ⟨Nat.le_of_ble_eq_true rfl, Nat.le_of_ble_eq_true rfl⟩) hFc (fun a9 h9 => Or.inr h9) hG hS hPc hK hDc rfl hl.1 rfl (Nat.le_of_ble_eq_true rfl) dL_law_316 ⟨Nat.le_of_ble_eq_true rfl, Nat.le_of_ble_eq_true rfl⟩ (fun r_1 u_1 H locs hw hz1 hk1 hP1 hS => ?_)
  obtain ⟨hP, hD⟩ := va_join (wr := ([(o2, .inl (k 6, 1, .inr (.inr (.inr (.inl g2)))))] ++ (fz_WM k q2 f2 pa2 v2))) (w1 := ([(o, .inl (k 5, 1, .inr (.inl u_1)))])) hP hD [0, 1, 2, 3, 4, 5, 6, 7, 8, 9, 10, 11, 12, 13, 14, 15, 16, 17, 18, 19, 20, 21, 22, 23, 24, 25, 26, 27, 28, 29, 30, 31, 32, 33, 34, 35, 36, 37, 38] [39, 40, 41, 42, 43, 44, 45, 46, 47] rfl rfl (by decide) (by decide) hk1 hFc hP1 (fz_Dsame (hDc.sub (ws' := [(o, .inl (k 5, 1, .inr (.inl g)))]) [38] (by decide) rfl) rfl)
  have hP : va_P D vwCl ([(o2, .inl (k 6, 1, .inr (.inr (.inr (.inl g2)))))] ++ (fz_WM k q2 f2 pa2 v2 ++ ([(o, .inl (k 5, 1, .inr (.inl u_1)))]))) H := hP
  have hD : va_D (fun q : Nat => s.heap.size ≤ q) ([(o2, .inl (k 6, 1, .inr (.inr (.inr (.inl g2)))))] ++ (fz_WM k q2 f2 pa2 v2 ++ ([(o, .inl (k 5, 1, .inr (.inl u_1)))]))) := hD
  rcases hw with ⟨rfl, hc_1⟩ | ⟨rfl, hc_1⟩
  · skip
    refine lv_istore (lv' := [(6, .int 1), (5, .int 0), (4, .ref o2), (3, .ref o), (2, .ref (q2 0)), (1, .ref (q 31)), (0, .ref b)]) hx hb dL_law_319 hl (by decide) rfl (fun ls hl => ?_)
    refine lv_aload_n hx hb dL_law_321 rfl (lv_at hl 4 rfl) ?_
    refine lv_aload_n hx hb dL_law_322 rfl (lv_at hl 6 rfl) ?_
    refine lv_iload hx hb dL_law_323 (lv_at hl 1 rfl) ?_
    refine lv_iconst (v := 1) hx hb dL_law_325 (by decide) ?_
    refine lv_iadd hx hb dL_law_326 ?_
    refine fz_I (y := 1) (by decide) ?_
    refine va_sld hx hb hX hbl hbA hS (fz_vin (by decide)) dL_law_327 ?_
    refine fz_I (y := x1) ex1.symm ?_
    have hPc := hP.sub (ws' := (fz_WM k q2 f2 pa2 v2)) [1, 2, 3, 4, 5, 6, 7, 8] rfl
    have hDc : va_D (va_A (fz_WM k q2 f2 pa2 v2) H.size) (fz_WM k q2 f2 pa2 v2) := (hD.sub (ws' := (fz_WM k q2 f2 pa2 v2)) [1, 2, 3, 4, 5, 6, 7, 8] (by decide) rfl).self
    have hFc := va_free (wc := (fz_WM k q2 f2 pa2 v2)) hD hS hA [1, 2, 3, 4, 5, 6, 7, 8] rfl
    refine fz_cVi (As := [.int x1]) (rest := []) S0 (m_p_remove l (va_A (fz_WM k q2 f2 pa2 v2) H.size) D k q2 f2 pa2 v2 x1 n_f_1_0 n_f_1_7) (fz_cwV (C := RX10) 1 hts9 fm_829 fm_830 fm_831 fm_832 fm_469 rfl rfl ⟨by decide, by decide, by decide +kernel⟩ ⟨Nat.le_of_ble_eq_true rfl, Nat.le_of_ble_eq_true rfl⟩) (va_recv hK hPc (ci := 14) (q0 := 0) rfl rfl) hFc (fun a9 h9 => Or.inr h9) hG hS hPc hK hDc rfl hl.1 rfl (Nat.le_of_ble_eq_true rfl) dL_law_328 ⟨Nat.le_of_ble_eq_true rfl, Nat.le_of_ble_eq_true rfl⟩ (fun r_2 u_2 H locs hw hz1 hk1 hP1 hS => ?_)
    obtain ⟨hP, hD⟩ := va_join (wr := ([(o2, .inl (k 6, 1, .inr (.inr (.inr (.inl g2)))))] ++ ([(o, .inl (k 5, 1, .inr (.inl u_1)))]))) (w1 := (fz_MO q2 u_2)) hP hD [1, 2, 3, 4, 5, 6, 7, 8] [0, 9] rfl rfl (by decide) (by decide) hk1 hFc hP1 (fz_Dsame (hDc.sub (ws' := fz_MO q2 v2) [0] (by decide) rfl) rfl)
    have hP : va_P D vwCl ([(o2, .inl (k 6, 1, .inr (.inr (.inr (.inl g2)))))] ++ ([(o, .inl (k 5, 1, .inr (.inl u_1)))] ++ (fz_MO q2 u_2))) H := hP
    have hD : va_D (fun q : Nat => s.heap.size ≤ q) ([(o2, .inl (k 6, 1, .inr (.inr (.inr (.inl g2)))))] ++ ([(o, .inl (k 5, 1, .inr (.inl u_1)))] ++ (fz_MO q2 u_2))) := hD
    rcases hw with ⟨rfl, ht_2, hc_2⟩ | ⟨rfl, ht_2, hc_2⟩
    · skip
      refine lv_istore (lv' := [(7, .int 0), (6, .int 1), (5, .int 0), (4, .ref o2), (3, .ref o), (2, .ref (q2 0)), (1, .ref (q 31)), (0, .ref b)]) hx hb dL_law_331 hl (by decide) rfl (fun ls hl => ?_)
      refine lv_aload_n hx hb dL_law_333 rfl (lv_at hl 5 rfl) ?_
      have hPc := hP.sub (ws' := (fz_MO q2 u_2)) [2] rfl
      have hDc : va_D (va_A (fz_MO q2 u_2) H.size) (fz_MO q2 u_2) := (hD.sub (ws' := (fz_MO q2 u_2)) [2] (by decide) rfl).self
      have hFc := va_free (wc := (fz_MO q2 u_2)) hD hS hA [2] rfl
      refine fz_cVi (As := []) (rest := []) S0 (m_thrown l (va_A (fz_MO q2 u_2) H.size) D k q2 u_2) (fz_cwV (C := RX10) 0 hts9 fm_823 fm_824 fm_825 fm_826 fm_469 rfl rfl ⟨by decide, by decide, by decide +kernel⟩ ⟨Nat.le_of_ble_eq_true rfl, Nat.le_of_ble_eq_true rfl⟩) (va_recv hK hPc (ci := 14) (q0 := 0) rfl rfl) hFc (fun a9 h9 => Or.inr h9) hG hS hPc hK hDc rfl hl.1 rfl (Nat.le_of_ble_eq_true rfl) dL_law_334 ⟨Nat.le_of_ble_eq_true rfl, Nat.le_of_ble_eq_true rfl⟩ (fun r_3 u_3 H locs hw hz1 hk1 hP1 hS => ?_)
      obtain ⟨hP, hD⟩ := va_join (wr := ([(o2, .inl (k 6, 1, .inr (.inr (.inr (.inl g2)))))] ++ ([(o, .inl (k 5, 1, .inr (.inl u_1)))]))) (w1 := (fz_MO q2 u_2)) hP hD [2] [0, 1] rfl rfl (by decide) (by decide) hk1 hFc hP1 hDc
      have hP : va_P D vwCl ([(o2, .inl (k 6, 1, .inr (.inr (.inr (.inl g2)))))] ++ ([(o, .inl (k 5, 1, .inr (.inl u_1)))] ++ (fz_MO q2 u_2))) H := hP
      have hD : va_D (fun q : Nat => s.heap.size ≤ q) ([(o2, .inl (k 6, 1, .inr (.inr (.inr (.inl g2)))))] ++ ([(o, .inl (k 5, 1, .inr (.inl u_1)))] ++ (fz_MO q2 u_2))) := hD
      obtain rfl : r_3 = u_2 0 := hw
      refine fz_I (y := 1) ht_2 ?_
      refine lv_iload hx hb dL_law_337 (lv_at hl 1 rfl) ?_
      refine lv_icmp_eq (tgt := 344) hx hb dL_law_339 (by decide) (fun c9 => ?_) (fun c9 => absurd (by decide) c9)
      refine lv_iload hx hb dL_law_344 (lv_at hl 1 rfl) ?_
      refine lv_if_ne (tgt := 361) hx hb dL_law_346 (by decide) (fun c9 => ?_) (fun c9 => absurd c9 (by decide))
      refine lv_goto (tgt := 2457) hx hb dL_law_361 (by decide) ?_
      exact lw_tail hL C0 (Nat.le_of_ble_eq_true rfl) (Nat.le_of_ble_eq_true rfl) hS ls (lv_sub hl [2, 7] rfl)
    · skip
      exact (fq_136 x1 hc_1 hc_2).elim
  · skip
    obtain rfl : x1 = 0 := (fq_27 x1 hc_1)
    refine lv_istore (lv' := [(6, .int 2), (5, .int 0), (4, .ref o2), (3, .ref o), (2, .ref (q2 0)), (1, .ref (q 31)), (0, .ref b)]) hx hb dL_law_319 hl (by decide) rfl (fun ls hl => ?_)
    refine lv_aload_n hx hb dL_law_321 rfl (lv_at hl 4 rfl) ?_
    refine lv_aload_n hx hb dL_law_322 rfl (lv_at hl 6 rfl) ?_
    refine lv_iload hx hb dL_law_323 (lv_at hl 1 rfl) ?_
    refine lv_iconst (v := 1) hx hb dL_law_325 (by decide) ?_
    refine lv_iadd hx hb dL_law_326 ?_
    refine fz_I (y := 1) (by decide) ?_
    refine va_sld hx hb hX hbl hbA hS (fz_vin (by decide)) dL_law_327 ?_
    refine fz_I (y := 0) ex1.symm ?_
    have hPc := hP.sub (ws' := (fz_WM k q2 f2 pa2 v2)) [1, 2, 3, 4, 5, 6, 7, 8] rfl
    have hDc : va_D (va_A (fz_WM k q2 f2 pa2 v2) H.size) (fz_WM k q2 f2 pa2 v2) := (hD.sub (ws' := (fz_WM k q2 f2 pa2 v2)) [1, 2, 3, 4, 5, 6, 7, 8] (by decide) rfl).self
    have hFc := va_free (wc := (fz_WM k q2 f2 pa2 v2)) hD hS hA [1, 2, 3, 4, 5, 6, 7, 8] rfl
    refine fz_cVi (As := [.int 0]) (rest := []) S0 (m_p_remove l (va_A (fz_WM k q2 f2 pa2 v2) H.size) D k q2 f2 pa2 v2 0 n_f_1_0 n_f_1_7) (fz_cwV (C := RX10) 1 hts9 fm_829 fm_830 fm_831 fm_832 fm_469 rfl rfl ⟨by decide, by decide, by decide +kernel⟩ ⟨Nat.le_of_ble_eq_true rfl, Nat.le_of_ble_eq_true rfl⟩) (va_recv hK hPc (ci := 14) (q0 := 0) rfl rfl) hFc (fun a9 h9 => Or.inr h9) hG hS hPc hK hDc rfl hl.1 rfl (Nat.le_of_ble_eq_true rfl) dL_law_328 ⟨Nat.le_of_ble_eq_true rfl, Nat.le_of_ble_eq_true rfl⟩ (fun r_2 u_2 H locs hw hz1 hk1 hP1 hS => ?_)
    obtain ⟨hP, hD⟩ := va_join (wr := ([(o2, .inl (k 6, 1, .inr (.inr (.inr (.inl g2)))))] ++ ([(o, .inl (k 5, 1, .inr (.inl u_1)))]))) (w1 := (fz_MO q2 u_2)) hP hD [1, 2, 3, 4, 5, 6, 7, 8] [0, 9] rfl rfl (by decide) (by decide) hk1 hFc hP1 (fz_Dsame (hDc.sub (ws' := fz_MO q2 v2) [0] (by decide) rfl) rfl)
    have hP : va_P D vwCl ([(o2, .inl (k 6, 1, .inr (.inr (.inr (.inl g2)))))] ++ ([(o, .inl (k 5, 1, .inr (.inl u_1)))] ++ (fz_MO q2 u_2))) H := hP
    have hD : va_D (fun q : Nat => s.heap.size ≤ q) ([(o2, .inl (k 6, 1, .inr (.inr (.inr (.inl g2)))))] ++ ([(o, .inl (k 5, 1, .inr (.inl u_1)))] ++ (fz_MO q2 u_2))) := hD
    rcases hw with ⟨rfl, ht_2, hc_2⟩ | ⟨rfl, ht_2, hc_2⟩
    · skip
      exact (fq_112 hc_2).elim
    · skip
      refine lv_istore (lv' := [(7, .int 0), (6, .int 2), (5, .int 0), (4, .ref o2), (3, .ref o), (2, .ref (q2 0)), (1, .ref (q 31)), (0, .ref b)]) hx hb dL_law_331 hl (by decide) rfl (fun ls hl => ?_)
      refine lv_aload_n hx hb dL_law_333 rfl (lv_at hl 5 rfl) ?_
      have hPc := hP.sub (ws' := (fz_MO q2 u_2)) [2] rfl
      have hDc : va_D (va_A (fz_MO q2 u_2) H.size) (fz_MO q2 u_2) := (hD.sub (ws' := (fz_MO q2 u_2)) [2] (by decide) rfl).self
      have hFc := va_free (wc := (fz_MO q2 u_2)) hD hS hA [2] rfl
      refine fz_cVi (As := []) (rest := []) S0 (m_thrown l (va_A (fz_MO q2 u_2) H.size) D k q2 u_2) (fz_cwV (C := RX10) 0 hts9 fm_823 fm_824 fm_825 fm_826 fm_469 rfl rfl ⟨by decide, by decide, by decide +kernel⟩ ⟨Nat.le_of_ble_eq_true rfl, Nat.le_of_ble_eq_true rfl⟩) (va_recv hK hPc (ci := 14) (q0 := 0) rfl rfl) hFc (fun a9 h9 => Or.inr h9) hG hS hPc hK hDc rfl hl.1 rfl (Nat.le_of_ble_eq_true rfl) dL_law_334 ⟨Nat.le_of_ble_eq_true rfl, Nat.le_of_ble_eq_true rfl⟩ (fun r_3 u_3 H locs hw hz1 hk1 hP1 hS => ?_)
      obtain ⟨hP, hD⟩ := va_join (wr := ([(o2, .inl (k 6, 1, .inr (.inr (.inr (.inl g2)))))] ++ ([(o, .inl (k 5, 1, .inr (.inl u_1)))]))) (w1 := (fz_MO q2 u_2)) hP hD [2] [0, 1] rfl rfl (by decide) (by decide) hk1 hFc hP1 hDc
      have hP : va_P D vwCl ([(o2, .inl (k 6, 1, .inr (.inr (.inr (.inl g2)))))] ++ ([(o, .inl (k 5, 1, .inr (.inl u_1)))] ++ (fz_MO q2 u_2))) H := hP
      have hD : va_D (fun q : Nat => s.heap.size ≤ q) ([(o2, .inl (k 6, 1, .inr (.inr (.inr (.inl g2)))))] ++ ([(o, .inl (k 5, 1, .inr (.inl u_1)))] ++ (fz_MO q2 u_2))) := hD
      obtain rfl : r_3 = u_2 0 := hw
      refine fz_I (y := 2) ht_2 ?_
      refine lv_iload hx hb dL_law_337 (lv_at hl 1 rfl) ?_
      refine lv_icmp_eq (tgt := 344) hx hb dL_law_339 (by decide) (fun c9 => ?_) (fun c9 => absurd (by decide) c9)
      refine lv_iload hx hb dL_law_344 (lv_at hl 1 rfl) ?_
      refine lv_if_ne (tgt := 361) hx hb dL_law_346 (by decide) (fun c9 => ?_) (fun c9 => absurd c9 (by decide))
      refine lv_goto (tgt := 2457) hx hb dL_law_361 (by decide) ?_
      exact lw_tail hL C0 (Nat.le_of_ble_eq_true rfl) (Nat.le_of_ble_eq_true rfl) hS ls (lv_sub hl [2, 7] rfl)

set_option maxHeartbeats 8000000 in
set_option maxRecDepth 100000 in
theorem lw_case2 {p : Program} {l : Launch} {e : Env} {s : State} {m : MethodId} {below : List Frame} {meth : Method} {c : Code} {D : va_G} {b L : Nat} {xs : Nat → Int32} (hl0 : l.stackTraces = false) (hL : L = 6) (C0 : lw_At p s m meth c b L xs) (hG : fz_GS (fun q : Nat => s.heap.size ≤ q) s) (k : Nat → ClassId) (hK : va_K D vwCl (fz_tys k) s) (q q2 : Nat → Nat) (f f2 : Nat → Nat → Int32) (pa pa2 : Nat → Option Nat) (v v2 : Nat → Int32) (o o2 : Nat) (g : Nat → Int64) (g2 : Nat → UInt64) (hF : fz_LF q2 f pa v f2 pa2 v2) (H : Heap) (locs : List Loc) (hP : va_P D vwCl (fz_WC k q f pa v ++ ([(o, .inl (k 5, 1, .inr (.inl g)))] ++ ([(o2, .inl (k 6, 1, .inr (.inr (.inr (.inl g2)))))] ++ (fz_WM k q2 f2 pa2 v2)))) H) (hD : va_D (fun q : Nat => s.heap.size ≤ q) (fz_WC k q f pa v ++ ([(o, .inl (k 5, 1, .inr (.inl g)))] ++ ([(o2, .inl (k 6, 1, .inr (.inr (.inr (.inl g2)))))] ++ (fz_WM k q2 f2 pa2 v2))))) (hS : va_S (fun q : Nat => s.heap.size ≤ q) s.heap H locs) (ls : Array Slot) (hl : lv_has ls 9 [(5, .int 0), (4, .ref o2), (3, .ref o), (2, .ref (q2 0)), (1, .ref (q 31)), (0, .ref b)]) :
    W p l e room_1 s m #[Value.ref b] below meth c H locs 2000 400000 (lw_Z below #[Value.ref b] s) (F0 m 364 ls []) := by
  obtain ⟨g_v_0, g_v_1, g_v_2, g_v_3, g_v_4, g_v_5, g_v_6, g_v_7, g_v_8, g_v_9, g_v_10, g_v_11, g_v_12, g_v_13, g_v_14, g_v_15, g_v_17, g_f_2_0, g_f_4_0, g_f_5_0, g_f_6_0, g_f_7_0, g_f_8_0, g_f_9_0, g_f_11_0, g_f_18_0, g_f_19_0, g_pa_0, g_pa_1, g_pa_8, n_v_0, n_v_5, n_v_6, n_v_7, n_v_8, n_v_9, n_v_10, n_v_11, n_v_12, n_v_13, n_v_15, n_v_16, n_v_17, n_v_18, n_v_19, n_v_21, n_f_1_0, n_f_1_1, n_f_1_2, n_f_1_3, n_f_1_4, n_f_1_5, n_f_1_6, n_f_1_7, n_f_1_8, n_f_1_9, n_f_1_10, n_f_1_11, n_f_1_12, n_f_1_13, n_f_1_15, n_f_1_16, n_f_1_17, n_pb_0⟩ := hF
  obtain ⟨hx, hb, hr, hml, hown, hts, hX, hbl, hlocks, hgv⟩ := id C0
  subst hL
  have hL : (6 : Nat) = 6 := rfl
  have hA : ∀ q : Nat, s.heap.size ≤ q → (fun q : Nat => s.heap.size ≤ q) q := fun _ h => h
  have hbA : ¬ (fun q : Nat => s.heap.size ≤ q) b := Nat.not_le.mpr hbl
  have hts9 := fz_hts9 hts
  have hown : s.vm.findClass RL = some m.cls := hown
  have S0 : CallFix p m c code 9 s #[Value.ref b] (Cond.initialized RL :: fz_WA) RL := ⟨hx, hb, hml, hown, hts9⟩
  obtain ⟨x1, ex1⟩ : ∃ z, z = xs 1 := ⟨_, rfl⟩
  obtain ⟨x2, ex2⟩ : ∃ z, z = xs 2 := ⟨_, rfl⟩
  obtain ⟨x3, ex3⟩ : ∃ z, z = xs 3 := ⟨_, rfl⟩
  obtain ⟨x4, ex4⟩ : ∃ z, z = xs 4 := ⟨_, rfl⟩
  obtain ⟨x5, ex5⟩ : ∃ z, z = xs 5 := ⟨_, rfl⟩
  refine lv_aload_n hx hb dL_law_364 rfl (lv_at hl 4 rfl) ?_
  refine lv_aload_n hx hb dL_law_365 rfl (lv_at hl 5 rfl) ?_
  refine lv_iload hx hb dL_law_366 (lv_at hl 0 rfl) ?_
  refine lv_iconst (v := 1) hx hb dL_law_368 (by decide) ?_
  refine lv_iadd hx hb dL_law_369 ?_
  refine fz_I (y := 1) (by decide) ?_
  refine va_sld hx hb hX hbl hbA hS (fz_vin (by decide)) dL_law_370 ?_
  refine fz_I (y := x1) ex1.symm ?_
  refine lv_aload_n hx hb dL_law_371 rfl (lv_at hl 5 rfl) ?_
  refine lv_iload hx hb dL_law_372 (lv_at hl 0 rfl) ?_
  refine lv_iconst (v := 2) hx hb dL_law_374 (by decide) ?_
  refine lv_iadd hx hb dL_law_375 ?_
  refine fz_I (y := 2) (by decide) ?_
  refine va_sld hx hb hX hbl hbA hS (fz_vin (by decide)) dL_law_376 ?_
  refine fz_I (y := x2) ex2.symm ?_
  refine lv_aload_n hx hb dL_law_377 rfl (lv_at hl 2 rfl) ?_
  have hPc := hP.sub (ws' := (fz_WC k q f pa v ++ ([(o, .inl (k 5, 1, .inr (.inl g)))]))) [0, 1, 2, 3, 4, 5, 6, 7, 8, 9, 10, 11, 12, 13, 14, 15, 16, 17, 18, 19, 20, 21, 22, 23, 24, 25, 26, 27, 28, 29, 30, 31, 32, 33, 34, 35, 36, 37, 38] rfl
  have hDc : va_D (va_A (fz_WC k q f pa v ++ ([(o, .inl (k 5, 1, .inr (.inl g)))])) H.size) (fz_WC k q f pa v ++ ([(o, .inl (k 5, 1, .inr (.inl g)))])) := (hD.sub (ws' := (fz_WC k q f pa v ++ ([(o, .inl (k 5, 1, .inr (.inl g)))]))) [0, 1, 2, 3, 4, 5, 6, 7, 8, 9, 10, 11, 12, 13, 14, 15, 16, 17, 18, 19, 20, 21, 22, 23, 24, 25, 26, 27, 28, 29, 30, 31, 32, 33, 34, 35, 36, 37, 38] (by decide) rfl).self
  have hFc := va_free (wc := (fz_WC k q f pa v ++ ([(o, .inl (k 5, 1, .inr (.inl g)))]))) hD hS hA [0, 1, 2, 3, 4, 5, 6, 7, 8, 9, 10, 11, 12, 13, 14, 15, 16, 17, 18, 19, 20, 21, 22, 23, 24, 25, 26, 27, 28, 29, 30, 31, 32, 33, 34, 35, 36, 37, 38] rfl
  refine fz_hSi (As := [.ref (q 31), .int x1, .int x2, .ref o]) (rest := []) S0 (h_move l hl0 (va_A (fz_WC k q f pa v ++ ([(o, .inl (k 5, 1, .inr (.inl g)))])) H.size) D k q f pa v o g x1 x2 g_v_1 g_f_4_0) (vx_cwSW 4 hts9 (fz_gSW fm_662 fm_833 fm_834 fm_816) rfl rfl rfl ⟨by decide, by decide, by decide +kernel⟩ ⟨Nat.le_of_ble_eq_true rfl, Nat.le_of_ble_eq_true rfl⟩) hFc (fun a9 h9 => Or.inr h9) hG hS hPc hK hDc rfl hl.1 rfl (Nat.le_of_ble_eq_true rfl) dL_law_378 ⟨Nat.le_of_ble_eq_true rfl, Nat.le_of_ble_eq_true rfl⟩ (fun r_1 u_1 H locs hw hz1 hk1 hP1 hS => ?_)
  obtain ⟨hP, hD⟩ := va_join (wr := ([(o2, .inl (k 6, 1, .inr (.inr (.inr (.inl g2)))))] ++ (fz_WM k q2 f2 pa2 v2))) (w1 := ([(o, .inl (k 5, 1, .inr (.inl u_1)))])) hP hD [0, 1, 2, 3, 4, 5, 6, 7, 8, 9, 10, 11, 12, 13, 14, 15, 16, 17, 18, 19, 20, 21, 22, 23, 24, 25, 26, 27, 28, 29, 30, 31, 32, 33, 34, 35, 36, 37, 38] [39, 40, 41, 42, 43, 44, 45, 46, 47] rfl rfl (by decide) (by decide) hk1 hFc hP1 (fz_Dsame (hDc.sub (ws' := [(o, .inl (k 5, 1, .inr (.inl g)))]) [38] (by decide) rfl) rfl)
  have hP : va_P D vwCl ([(o2, .inl (k 6, 1, .inr (.inr (.inr (.inl g2)))))] ++ (fz_WM k q2 f2 pa2 v2 ++ ([(o, .inl (k 5, 1, .inr (.inl u_1)))]))) H := hP
  have hD : va_D (fun q : Nat => s.heap.size ≤ q) ([(o2, .inl (k 6, 1, .inr (.inr (.inr (.inl g2)))))] ++ (fz_WM k q2 f2 pa2 v2 ++ ([(o, .inl (k 5, 1, .inr (.inl u_1)))]))) := hD
  rcases hw with ⟨rfl, hc_1⟩ | ⟨rfl, hc_1⟩
  · skip
    refine lv_istore (lv' := [(6, .int 1), (5, .int 0), (4, .ref o2), (3, .ref o), (2, .ref (q2 0)), (1, .ref (q 31)), (0, .ref b)]) hx hb dL_law_381 hl (by decide) rfl (fun ls hl => ?_)
    refine lv_aload_n hx hb dL_law_383 rfl (lv_at hl 4 rfl) ?_
    refine lv_aload_n hx hb dL_law_384 rfl (lv_at hl 6 rfl) ?_
    refine lv_iload hx hb dL_law_385 (lv_at hl 1 rfl) ?_
    refine lv_iconst (v := 1) hx hb dL_law_387 (by decide) ?_
    refine lv_iadd hx hb dL_law_388 ?_
    refine fz_I (y := 1) (by decide) ?_
    refine va_sld hx hb hX hbl hbA hS (fz_vin (by decide)) dL_law_389 ?_
    refine fz_I (y := x1) ex1.symm ?_
    refine lv_aload_n hx hb dL_law_390 rfl (lv_at hl 6 rfl) ?_
    refine lv_iload hx hb dL_law_391 (lv_at hl 1 rfl) ?_
    refine lv_iconst (v := 2) hx hb dL_law_393 (by decide) ?_
    refine lv_iadd hx hb dL_law_394 ?_
    refine fz_I (y := 2) (by decide) ?_
    refine va_sld hx hb hX hbl hbA hS (fz_vin (by decide)) dL_law_395 ?_
    refine fz_I (y := x2) ex2.symm ?_
    have hPc := hP.sub (ws' := (fz_WM k q2 f2 pa2 v2)) [1, 2, 3, 4, 5, 6, 7, 8] rfl
    have hDc : va_D (va_A (fz_WM k q2 f2 pa2 v2) H.size) (fz_WM k q2 f2 pa2 v2) := (hD.sub (ws' := (fz_WM k q2 f2 pa2 v2)) [1, 2, 3, 4, 5, 6, 7, 8] (by decide) rfl).self
    have hFc := va_free (wc := (fz_WM k q2 f2 pa2 v2)) hD hS hA [1, 2, 3, 4, 5, 6, 7, 8] rfl
    refine fz_cVi (As := [.int x1, .int x2]) (rest := []) S0 (m_p_move l (va_A (fz_WM k q2 f2 pa2 v2) H.size) D k q2 f2 pa2 v2 x1 x2 n_f_1_0 n_f_1_7) (fz_cwV (C := RX10) 2 hts9 fm_835 fm_836 fm_837 fm_838 fm_469 rfl rfl ⟨by decide, by decide, by decide +kernel⟩ ⟨Nat.le_of_ble_eq_true rfl, Nat.le_of_ble_eq_true rfl⟩) (va_recv hK hPc (ci := 14) (q0 := 0) rfl rfl) hFc (fun a9 h9 => Or.inr h9) hG hS hPc hK hDc rfl hl.1 rfl (Nat.le_of_ble_eq_true rfl) dL_law_396 ⟨Nat.le_of_ble_eq_true rfl, Nat.le_of_ble_eq_true rfl⟩ (fun r_2 u_2 H locs hw hz1 hk1 hP1 hS => ?_)
    obtain ⟨hP, hD⟩ := va_join (wr := ([(o2, .inl (k 6, 1, .inr (.inr (.inr (.inl g2)))))] ++ ([(o, .inl (k 5, 1, .inr (.inl u_1)))]))) (w1 := (fz_MO q2 u_2)) hP hD [1, 2, 3, 4, 5, 6, 7, 8] [0, 9] rfl rfl (by decide) (by decide) hk1 hFc hP1 (fz_Dsame (hDc.sub (ws' := fz_MO q2 v2) [0] (by decide) rfl) rfl)
    have hP : va_P D vwCl ([(o2, .inl (k 6, 1, .inr (.inr (.inr (.inl g2)))))] ++ ([(o, .inl (k 5, 1, .inr (.inl u_1)))] ++ (fz_MO q2 u_2))) H := hP
    have hD : va_D (fun q : Nat => s.heap.size ≤ q) ([(o2, .inl (k 6, 1, .inr (.inr (.inr (.inl g2)))))] ++ ([(o, .inl (k 5, 1, .inr (.inl u_1)))] ++ (fz_MO q2 u_2))) := hD
    rcases hw with ⟨rfl, ht_2, hc_2⟩ | ⟨rfl, ht_2, hc_2⟩
    · skip
      refine lv_istore (lv' := [(7, .int 0), (6, .int 1), (5, .int 0), (4, .ref o2), (3, .ref o), (2, .ref (q2 0)), (1, .ref (q 31)), (0, .ref b)]) hx hb dL_law_399 hl (by decide) rfl (fun ls hl => ?_)
      refine lv_aload_n hx hb dL_law_401 rfl (lv_at hl 5 rfl) ?_
      have hPc := hP.sub (ws' := (fz_MO q2 u_2)) [2] rfl
      have hDc : va_D (va_A (fz_MO q2 u_2) H.size) (fz_MO q2 u_2) := (hD.sub (ws' := (fz_MO q2 u_2)) [2] (by decide) rfl).self
      have hFc := va_free (wc := (fz_MO q2 u_2)) hD hS hA [2] rfl
      refine fz_cVi (As := []) (rest := []) S0 (m_thrown l (va_A (fz_MO q2 u_2) H.size) D k q2 u_2) (fz_cwV (C := RX10) 0 hts9 fm_823 fm_824 fm_825 fm_826 fm_469 rfl rfl ⟨by decide, by decide, by decide +kernel⟩ ⟨Nat.le_of_ble_eq_true rfl, Nat.le_of_ble_eq_true rfl⟩) (va_recv hK hPc (ci := 14) (q0 := 0) rfl rfl) hFc (fun a9 h9 => Or.inr h9) hG hS hPc hK hDc rfl hl.1 rfl (Nat.le_of_ble_eq_true rfl) dL_law_402 ⟨Nat.le_of_ble_eq_true rfl, Nat.le_of_ble_eq_true rfl⟩ (fun r_3 u_3 H locs hw hz1 hk1 hP1 hS => ?_)
      obtain ⟨hP, hD⟩ := va_join (wr := ([(o2, .inl (k 6, 1, .inr (.inr (.inr (.inl g2)))))] ++ ([(o, .inl (k 5, 1, .inr (.inl u_1)))]))) (w1 := (fz_MO q2 u_2)) hP hD [2] [0, 1] rfl rfl (by decide) (by decide) hk1 hFc hP1 hDc
      have hP : va_P D vwCl ([(o2, .inl (k 6, 1, .inr (.inr (.inr (.inl g2)))))] ++ ([(o, .inl (k 5, 1, .inr (.inl u_1)))] ++ (fz_MO q2 u_2))) H := hP
      have hD : va_D (fun q : Nat => s.heap.size ≤ q) ([(o2, .inl (k 6, 1, .inr (.inr (.inr (.inl g2)))))] ++ ([(o, .inl (k 5, 1, .inr (.inl u_1)))] ++ (fz_MO q2 u_2))) := hD
      obtain rfl : r_3 = u_2 0 := hw
      refine fz_I (y := 1) ht_2 ?_
      refine lv_iload hx hb dL_law_405 (lv_at hl 1 rfl) ?_
      refine lv_icmp_eq (tgt := 412) hx hb dL_law_407 (by decide) (fun c9 => ?_) (fun c9 => absurd (by decide) c9)
      refine lv_iload hx hb dL_law_412 (lv_at hl 1 rfl) ?_
      refine lv_if_ne (tgt := 429) hx hb dL_law_414 (by decide) (fun c9 => ?_) (fun c9 => absurd c9 (by decide))
      refine lv_goto (tgt := 2457) hx hb dL_law_429 (by decide) ?_
      exact lw_tail hL C0 (Nat.le_of_ble_eq_true rfl) (Nat.le_of_ble_eq_true rfl) hS ls (lv_sub hl [2, 7] rfl)
    · skip
      exact (fq_137 x1 x2 hc_1 hc_2).elim
  · skip
    obtain rfl : x1 = 0 := (fq_138 x1 x2 hc_1)
    obtain rfl : x2 = 0 := (fq_139 x2 hc_1)
    refine lv_istore (lv' := [(6, .int 2), (5, .int 0), (4, .ref o2), (3, .ref o), (2, .ref (q2 0)), (1, .ref (q 31)), (0, .ref b)]) hx hb dL_law_381 hl (by decide) rfl (fun ls hl => ?_)
    refine lv_aload_n hx hb dL_law_383 rfl (lv_at hl 4 rfl) ?_
    refine lv_aload_n hx hb dL_law_384 rfl (lv_at hl 6 rfl) ?_
    refine lv_iload hx hb dL_law_385 (lv_at hl 1 rfl) ?_
    refine lv_iconst (v := 1) hx hb dL_law_387 (by decide) ?_
    refine lv_iadd hx hb dL_law_388 ?_
    refine fz_I (y := 1) (by decide) ?_
    refine va_sld hx hb hX hbl hbA hS (fz_vin (by decide)) dL_law_389 ?_
    refine fz_I (y := 0) ex1.symm ?_
    refine lv_aload_n hx hb dL_law_390 rfl (lv_at hl 6 rfl) ?_
    refine lv_iload hx hb dL_law_391 (lv_at hl 1 rfl) ?_
    refine lv_iconst (v := 2) hx hb dL_law_393 (by decide) ?_
    refine lv_iadd hx hb dL_law_394 ?_
    refine fz_I (y := 2) (by decide) ?_
    refine va_sld hx hb hX hbl hbA hS (fz_vin (by decide)) dL_law_395 ?_
    refine fz_I (y := 0) ex2.symm ?_
    have hPc := hP.sub (ws' := (fz_WM k q2 f2 pa2 v2)) [1, 2, 3, 4, 5, 6, 7, 8] rfl
    have hDc : va_D (va_A (fz_WM k q2 f2 pa2 v2) H.size) (fz_WM k q2 f2 pa2 v2) := (hD.sub (ws' := (fz_WM k q2 f2 pa2 v2)) [1, 2, 3, 4, 5, 6, 7, 8] (by decide) rfl).self
    have hFc := va_free (wc := (fz_WM k q2 f2 pa2 v2)) hD hS hA [1, 2, 3, 4, 5, 6, 7, 8] rfl
    refine fz_cVi (As := [.int 0, .int 0]) (rest := []) S0 (m_p_move l (va_A (fz_WM k q2 f2 pa2 v2) H.size) D k q2 f2 pa2 v2 0 0 n_f_1_0 n_f_1_7) (fz_cwV (C := RX10) 2 hts9 fm_835 fm_836 fm_837 fm_838 fm_469 rfl rfl ⟨by decide, by decide, by decide +kernel⟩ ⟨Nat.le_of_ble_eq_true rfl, Nat.le_of_ble_eq_true rfl⟩) (va_recv hK hPc (ci := 14) (q0 := 0) rfl rfl) hFc (fun a9 h9 => Or.inr h9) hG hS hPc hK hDc rfl hl.1 rfl (Nat.le_of_ble_eq_true rfl) dL_law_396 ⟨Nat.le_of_ble_eq_true rfl, Nat.le_of_ble_eq_true rfl⟩ (fun r_2 u_2 H locs hw hz1 hk1 hP1 hS => ?_)
    obtain ⟨hP, hD⟩ := va_join (wr := ([(o2, .inl (k 6, 1, .inr (.inr (.inr (.inl g2)))))] ++ ([(o, .inl (k 5, 1, .inr (.inl u_1)))]))) (w1 := (fz_MO q2 u_2)) hP hD [1, 2, 3, 4, 5, 6, 7, 8] [0, 9] rfl rfl (by decide) (by decide) hk1 hFc hP1 (fz_Dsame (hDc.sub (ws' := fz_MO q2 v2) [0] (by decide) rfl) rfl)
    have hP : va_P D vwCl ([(o2, .inl (k 6, 1, .inr (.inr (.inr (.inl g2)))))] ++ ([(o, .inl (k 5, 1, .inr (.inl u_1)))] ++ (fz_MO q2 u_2))) H := hP
    have hD : va_D (fun q : Nat => s.heap.size ≤ q) ([(o2, .inl (k 6, 1, .inr (.inr (.inr (.inl g2)))))] ++ ([(o, .inl (k 5, 1, .inr (.inl u_1)))] ++ (fz_MO q2 u_2))) := hD
    rcases hw with ⟨rfl, ht_2, hc_2⟩ | ⟨rfl, ht_2, hc_2⟩
    · skip
      exact (fq_140 hc_2).elim
    · skip
      refine lv_istore (lv' := [(7, .int 0), (6, .int 2), (5, .int 0), (4, .ref o2), (3, .ref o), (2, .ref (q2 0)), (1, .ref (q 31)), (0, .ref b)]) hx hb dL_law_399 hl (by decide) rfl (fun ls hl => ?_)
      refine lv_aload_n hx hb dL_law_401 rfl (lv_at hl 5 rfl) ?_
      have hPc := hP.sub (ws' := (fz_MO q2 u_2)) [2] rfl
      have hDc : va_D (va_A (fz_MO q2 u_2) H.size) (fz_MO q2 u_2) := (hD.sub (ws' := (fz_MO q2 u_2)) [2] (by decide) rfl).self
      have hFc := va_free (wc := (fz_MO q2 u_2)) hD hS hA [2] rfl
      refine fz_cVi (As := []) (rest := []) S0 (m_thrown l (va_A (fz_MO q2 u_2) H.size) D k q2 u_2) (fz_cwV (C := RX10) 0 hts9 fm_823 fm_824 fm_825 fm_826 fm_469 rfl rfl ⟨by decide, by decide, by decide +kernel⟩ ⟨Nat.le_of_ble_eq_true rfl, Nat.le_of_ble_eq_true rfl⟩) (va_recv hK hPc (ci := 14) (q0 := 0) rfl rfl) hFc (fun a9 h9 => Or.inr h9) hG hS hPc hK hDc rfl hl.1 rfl (Nat.le_of_ble_eq_true rfl) dL_law_402 ⟨Nat.le_of_ble_eq_true rfl, Nat.le_of_ble_eq_true rfl⟩ (fun r_3 u_3 H locs hw hz1 hk1 hP1 hS => ?_)
      obtain ⟨hP, hD⟩ := va_join (wr := ([(o2, .inl (k 6, 1, .inr (.inr (.inr (.inl g2)))))] ++ ([(o, .inl (k 5, 1, .inr (.inl u_1)))]))) (w1 := (fz_MO q2 u_2)) hP hD [2] [0, 1] rfl rfl (by decide) (by decide) hk1 hFc hP1 hDc
      have hP : va_P D vwCl ([(o2, .inl (k 6, 1, .inr (.inr (.inr (.inl g2)))))] ++ ([(o, .inl (k 5, 1, .inr (.inl u_1)))] ++ (fz_MO q2 u_2))) H := hP
      have hD : va_D (fun q : Nat => s.heap.size ≤ q) ([(o2, .inl (k 6, 1, .inr (.inr (.inr (.inl g2)))))] ++ ([(o, .inl (k 5, 1, .inr (.inl u_1)))] ++ (fz_MO q2 u_2))) := hD
      obtain rfl : r_3 = u_2 0 := hw
      refine fz_I (y := 2) ht_2 ?_
      refine lv_iload hx hb dL_law_405 (lv_at hl 1 rfl) ?_
      refine lv_icmp_eq (tgt := 412) hx hb dL_law_407 (by decide) (fun c9 => ?_) (fun c9 => absurd (by decide) c9)
      refine lv_iload hx hb dL_law_412 (lv_at hl 1 rfl) ?_
      refine lv_if_ne (tgt := 429) hx hb dL_law_414 (by decide) (fun c9 => ?_) (fun c9 => absurd c9 (by decide))
      refine lv_goto (tgt := 2457) hx hb dL_law_429 (by decide) ?_
      exact lw_tail hL C0 (Nat.le_of_ble_eq_true rfl) (Nat.le_of_ble_eq_true rfl) hS ls (lv_sub hl [2, 7] rfl)

set_option maxHeartbeats 8000000 in
set_option maxRecDepth 100000 in
theorem lw_case3 {p : Program} {l : Launch} {e : Env} {s : State} {m : MethodId} {below : List Frame} {meth : Method} {c : Code} {D : va_G} {b L : Nat} {xs : Nat → Int32} (hl0 : l.stackTraces = false) (hL : L = 6) (C0 : lw_At p s m meth c b L xs) (hG : fz_GS (fun q : Nat => s.heap.size ≤ q) s) (k : Nat → ClassId) (hK : va_K D vwCl (fz_tys k) s) (q q2 : Nat → Nat) (f f2 : Nat → Nat → Int32) (pa pa2 : Nat → Option Nat) (v v2 : Nat → Int32) (o o2 : Nat) (g : Nat → Int64) (g2 : Nat → UInt64) (hF : fz_LF q2 f pa v f2 pa2 v2) (H : Heap) (locs : List Loc) (hP : va_P D vwCl (fz_WC k q f pa v ++ ([(o, .inl (k 5, 1, .inr (.inl g)))] ++ ([(o2, .inl (k 6, 1, .inr (.inr (.inr (.inl g2)))))] ++ (fz_WM k q2 f2 pa2 v2)))) H) (hD : va_D (fun q : Nat => s.heap.size ≤ q) (fz_WC k q f pa v ++ ([(o, .inl (k 5, 1, .inr (.inl g)))] ++ ([(o2, .inl (k 6, 1, .inr (.inr (.inr (.inl g2)))))] ++ (fz_WM k q2 f2 pa2 v2))))) (hS : va_S (fun q : Nat => s.heap.size ≤ q) s.heap H locs) (ls : Array Slot) (hl : lv_has ls 9 [(5, .int 0), (4, .ref o2), (3, .ref o), (2, .ref (q2 0)), (1, .ref (q 31)), (0, .ref b)]) :
    W p l e room_1 s m #[Value.ref b] below meth c H locs 2000 400000 (lw_Z below #[Value.ref b] s) (F0 m 432 ls []) := by
  obtain ⟨g_v_0, g_v_1, g_v_2, g_v_3, g_v_4, g_v_5, g_v_6, g_v_7, g_v_8, g_v_9, g_v_10, g_v_11, g_v_12, g_v_13, g_v_14, g_v_15, g_v_17, g_f_2_0, g_f_4_0, g_f_5_0, g_f_6_0, g_f_7_0, g_f_8_0, g_f_9_0, g_f_11_0, g_f_18_0, g_f_19_0, g_pa_0, g_pa_1, g_pa_8, n_v_0, n_v_5, n_v_6, n_v_7, n_v_8, n_v_9, n_v_10, n_v_11, n_v_12, n_v_13, n_v_15, n_v_16, n_v_17, n_v_18, n_v_19, n_v_21, n_f_1_0, n_f_1_1, n_f_1_2, n_f_1_3, n_f_1_4, n_f_1_5, n_f_1_6, n_f_1_7, n_f_1_8, n_f_1_9, n_f_1_10, n_f_1_11, n_f_1_12, n_f_1_13, n_f_1_15, n_f_1_16, n_f_1_17, n_pb_0⟩ := hF
  obtain ⟨hx, hb, hr, hml, hown, hts, hX, hbl, hlocks, hgv⟩ := id C0
  subst hL
  have hL : (6 : Nat) = 6 := rfl
  have hA : ∀ q : Nat, s.heap.size ≤ q → (fun q : Nat => s.heap.size ≤ q) q := fun _ h => h
  have hbA : ¬ (fun q : Nat => s.heap.size ≤ q) b := Nat.not_le.mpr hbl
  have hts9 := fz_hts9 hts
  have hown : s.vm.findClass RL = some m.cls := hown
  have S0 : CallFix p m c code 9 s #[Value.ref b] (Cond.initialized RL :: fz_WA) RL := ⟨hx, hb, hml, hown, hts9⟩
  obtain ⟨x1, ex1⟩ : ∃ z, z = xs 1 := ⟨_, rfl⟩
  obtain ⟨x2, ex2⟩ : ∃ z, z = xs 2 := ⟨_, rfl⟩
  obtain ⟨x3, ex3⟩ : ∃ z, z = xs 3 := ⟨_, rfl⟩
  obtain ⟨x4, ex4⟩ : ∃ z, z = xs 4 := ⟨_, rfl⟩
  obtain ⟨x5, ex5⟩ : ∃ z, z = xs 5 := ⟨_, rfl⟩
  refine lv_aload_n hx hb dL_law_432 rfl (lv_at hl 4 rfl) ?_
  refine lv_aload_n hx hb dL_law_433 rfl (lv_at hl 5 rfl) ?_
  refine lv_iload hx hb dL_law_434 (lv_at hl 0 rfl) ?_
  refine lv_iconst (v := 1) hx hb dL_law_436 (by decide) ?_
  refine lv_iadd hx hb dL_law_437 ?_
  refine fz_I (y := 1) (by decide) ?_
  refine va_sld hx hb hX hbl hbA hS (fz_vin (by decide)) dL_law_438 ?_
  refine fz_I (y := x1) ex1.symm ?_
  refine lv_aload_n hx hb dL_law_439 rfl (lv_at hl 5 rfl) ?_
  refine lv_iload hx hb dL_law_440 (lv_at hl 0 rfl) ?_
  refine lv_iconst (v := 2) hx hb dL_law_442 (by decide) ?_
  refine lv_iadd hx hb dL_law_443 ?_
  refine fz_I (y := 2) (by decide) ?_
  refine va_sld hx hb hX hbl hbA hS (fz_vin (by decide)) dL_law_444 ?_
  refine fz_I (y := x2) ex2.symm ?_
  refine lv_aload_n hx hb dL_law_445 rfl (lv_at hl 2 rfl) ?_
  have hPc := hP.sub (ws' := (fz_WC k q f pa v ++ ([(o, .inl (k 5, 1, .inr (.inl g)))]))) [0, 1, 2, 3, 4, 5, 6, 7, 8, 9, 10, 11, 12, 13, 14, 15, 16, 17, 18, 19, 20, 21, 22, 23, 24, 25, 26, 27, 28, 29, 30, 31, 32, 33, 34, 35, 36, 37, 38] rfl
  have hDc : va_D (va_A (fz_WC k q f pa v ++ ([(o, .inl (k 5, 1, .inr (.inl g)))])) H.size) (fz_WC k q f pa v ++ ([(o, .inl (k 5, 1, .inr (.inl g)))])) := (hD.sub (ws' := (fz_WC k q f pa v ++ ([(o, .inl (k 5, 1, .inr (.inl g)))]))) [0, 1, 2, 3, 4, 5, 6, 7, 8, 9, 10, 11, 12, 13, 14, 15, 16, 17, 18, 19, 20, 21, 22, 23, 24, 25, 26, 27, 28, 29, 30, 31, 32, 33, 34, 35, 36, 37, 38] (by decide) rfl).self
  have hFc := va_free (wc := (fz_WC k q f pa v ++ ([(o, .inl (k 5, 1, .inr (.inl g)))]))) hD hS hA [0, 1, 2, 3, 4, 5, 6, 7, 8, 9, 10, 11, 12, 13, 14, 15, 16, 17, 18, 19, 20, 21, 22, 23, 24, 25, 26, 27, 28, 29, 30, 31, 32, 33, 34, 35, 36, 37, 38] rfl
  refine fz_hSi (As := [.ref (q 31), .int x1, .int x2, .ref o]) (rest := []) S0 (h_node l hl0 (va_A (fz_WC k q f pa v ++ ([(o, .inl (k 5, 1, .inr (.inl g)))])) H.size) D k q f pa v o g x1 x2 g_v_1 g_f_4_0 g_f_5_0 g_f_7_0 g_f_8_0 g_f_9_0 g_v_2 g_f_6_0 g_f_2_0 g_f_18_0 g_f_19_0 g_v_7) (vx_cwSW 4 hts9 (fz_gSW fm_667 fm_839 fm_840 fm_816) rfl rfl rfl ⟨by decide, by decide, by decide +kernel⟩ ⟨Nat.le_of_ble_eq_true rfl, Nat.le_of_ble_eq_true rfl⟩) hFc (fun a9 h9 => Or.inr h9) hG hS hPc hK hDc rfl hl.1 rfl (Nat.le_of_ble_eq_true rfl) dL_law_446 ⟨Nat.le_of_ble_eq_true rfl, Nat.le_of_ble_eq_true rfl⟩ (fun r_1 u_1 H locs hw hz1 hk1 hP1 hS => ?_)
  obtain ⟨hP, hD⟩ := va_join (wr := ([(o2, .inl (k 6, 1, .inr (.inr (.inr (.inl g2)))))] ++ (fz_WM k q2 f2 pa2 v2))) (w1 := ([(o, .inl (k 5, 1, .inr (.inl u_1)))])) hP hD [0, 1, 2, 3, 4, 5, 6, 7, 8, 9, 10, 11, 12, 13, 14, 15, 16, 17, 18, 19, 20, 21, 22, 23, 24, 25, 26, 27, 28, 29, 30, 31, 32, 33, 34, 35, 36, 37, 38] [39, 40, 41, 42, 43, 44, 45, 46, 47] rfl rfl (by decide) (by decide) hk1 hFc hP1 (fz_Dsame (hDc.sub (ws' := [(o, .inl (k 5, 1, .inr (.inl g)))]) [38] (by decide) rfl) rfl)
  have hP : va_P D vwCl ([(o2, .inl (k 6, 1, .inr (.inr (.inr (.inl g2)))))] ++ (fz_WM k q2 f2 pa2 v2 ++ ([(o, .inl (k 5, 1, .inr (.inl u_1)))]))) H := hP
  have hD : va_D (fun q : Nat => s.heap.size ≤ q) ([(o2, .inl (k 6, 1, .inr (.inr (.inr (.inl g2)))))] ++ (fz_WM k q2 f2 pa2 v2 ++ ([(o, .inl (k 5, 1, .inr (.inl u_1)))]))) := hD
  rcases hw with ⟨rfl, hu_1, hc_1⟩ | ⟨rfl, hu_1, hc_1⟩ | ⟨rfl, hu_1, hc_1⟩ | ⟨rfl, hu_1, hc_1⟩ | ⟨rfl, hu_1, hc_1⟩ | ⟨rfl, hu_1, hc_1⟩ | ⟨rfl, hu_1, hc_1⟩ | ⟨rfl, hc_1⟩ | ⟨rfl, hc_1⟩
  · skip
    obtain rfl : x1 = 0 := (fq_138 x1 x2 hc_1)
    obtain rfl : x2 = 0 := (fq_139 x2 hc_1)
    refine lv_istore (lv' := [(6, .int 0), (5, .int 0), (4, .ref o2), (3, .ref o), (2, .ref (q2 0)), (1, .ref (q 31)), (0, .ref b)]) hx hb dL_law_449 hl (by decide) rfl (fun ls hl => ?_)
    refine lv_aload_n hx hb dL_law_451 rfl (lv_at hl 4 rfl) ?_
    refine lv_aload_n hx hb dL_law_452 rfl (lv_at hl 6 rfl) ?_
    refine lv_iload hx hb dL_law_453 (lv_at hl 1 rfl) ?_
    refine lv_iconst (v := 1) hx hb dL_law_455 (by decide) ?_
    refine lv_iadd hx hb dL_law_456 ?_
    refine fz_I (y := 1) (by decide) ?_
    refine va_sld hx hb hX hbl hbA hS (fz_vin (by decide)) dL_law_457 ?_
    refine fz_I (y := 0) ex1.symm ?_
    refine lv_aload_n hx hb dL_law_458 rfl (lv_at hl 6 rfl) ?_
    refine lv_iload hx hb dL_law_459 (lv_at hl 1 rfl) ?_
    refine lv_iconst (v := 2) hx hb dL_law_461 (by decide) ?_
    refine lv_iadd hx hb dL_law_462 ?_
    refine fz_I (y := 2) (by decide) ?_
    refine va_sld hx hb hX hbl hbA hS (fz_vin (by decide)) dL_law_463 ?_
    refine fz_I (y := 0) ex2.symm ?_
    have hPc := hP.sub (ws' := (fz_WM k q2 f2 pa2 v2)) [1, 2, 3, 4, 5, 6, 7, 8] rfl
    have hDc : va_D (va_A (fz_WM k q2 f2 pa2 v2) H.size) (fz_WM k q2 f2 pa2 v2) := (hD.sub (ws' := (fz_WM k q2 f2 pa2 v2)) [1, 2, 3, 4, 5, 6, 7, 8] (by decide) rfl).self
    have hFc := va_free (wc := (fz_WM k q2 f2 pa2 v2)) hD hS hA [1, 2, 3, 4, 5, 6, 7, 8] rfl
    refine fz_cVi (As := [.int 0, .int 0]) (rest := []) S0 (m_p_node l (va_A (fz_WM k q2 f2 pa2 v2) H.size) D k q2 f2 pa2 v2 0 0 n_f_1_0 n_f_1_7 n_f_1_8 n_f_1_9 n_f_1_10 n_f_1_11 n_f_1_12 n_f_1_15 n_f_1_16 n_f_1_3) (fz_cwV (C := RX10) 2 hts9 fm_841 fm_842 fm_843 fm_844 fm_469 rfl rfl ⟨by decide, by decide, by decide +kernel⟩ ⟨Nat.le_of_ble_eq_true rfl, Nat.le_of_ble_eq_true rfl⟩) (va_recv hK hPc (ci := 14) (q0 := 0) rfl rfl) hFc (fun a9 h9 => Or.inr h9) hG hS hPc hK hDc rfl hl.1 rfl (Nat.le_of_ble_eq_true rfl) dL_law_464 ⟨Nat.le_of_ble_eq_true rfl, Nat.le_of_ble_eq_true rfl⟩ (fun r_2 u_2 H locs hw hz1 hk1 hP1 hS => ?_)
    obtain ⟨hP, hD⟩ := va_join (wr := ([(o2, .inl (k 6, 1, .inr (.inr (.inr (.inl g2)))))] ++ ([(o, .inl (k 5, 1, .inr (.inl u_1)))]))) (w1 := (fz_MO q2 u_2)) hP hD [1, 2, 3, 4, 5, 6, 7, 8] [0, 9] rfl rfl (by decide) (by decide) hk1 hFc hP1 (fz_Dsame (hDc.sub (ws' := fz_MO q2 v2) [0] (by decide) rfl) rfl)
    have hP : va_P D vwCl ([(o2, .inl (k 6, 1, .inr (.inr (.inr (.inl g2)))))] ++ ([(o, .inl (k 5, 1, .inr (.inl u_1)))] ++ (fz_MO q2 u_2))) H := hP
    have hD : va_D (fun q : Nat => s.heap.size ≤ q) ([(o2, .inl (k 6, 1, .inr (.inr (.inr (.inl g2)))))] ++ ([(o, .inl (k 5, 1, .inr (.inl u_1)))] ++ (fz_MO q2 u_2))) := hD
    rcases hw with ⟨rfl, ht_2, hc_2⟩ | ⟨rfl, ht_2, hc_2⟩ | ⟨rfl, ht_2, hc_2⟩ | ⟨rfl, ht_2, hc_2⟩ | ⟨rfl, ht_2, hc_2⟩ | ⟨rfl, ht_2, hc_2⟩ | ⟨rfl, ht_2, hc_2⟩ | ⟨rfl, ht_2, hc_2⟩ | ⟨rfl, ht_2, hc_2⟩
    · skip
      exact (fq_112 hc_2).elim
    · skip
      exact (fq_141 hc_2).elim
    · skip
      refine lv_istore (lv' := [(7, .int 0), (6, .int 0), (5, .int 0), (4, .ref o2), (3, .ref o), (2, .ref (q2 0)), (1, .ref (q 31)), (0, .ref b)]) hx hb dL_law_467 hl (by decide) rfl (fun ls hl => ?_)
      refine lv_aload_n hx hb dL_law_469 rfl (lv_at hl 5 rfl) ?_
      have hPc := hP.sub (ws' := (fz_MO q2 u_2)) [2] rfl
      have hDc : va_D (va_A (fz_MO q2 u_2) H.size) (fz_MO q2 u_2) := (hD.sub (ws' := (fz_MO q2 u_2)) [2] (by decide) rfl).self
      have hFc := va_free (wc := (fz_MO q2 u_2)) hD hS hA [2] rfl
      refine fz_cVi (As := []) (rest := []) S0 (m_thrown l (va_A (fz_MO q2 u_2) H.size) D k q2 u_2) (fz_cwV (C := RX10) 0 hts9 fm_823 fm_824 fm_825 fm_826 fm_469 rfl rfl ⟨by decide, by decide, by decide +kernel⟩ ⟨Nat.le_of_ble_eq_true rfl, Nat.le_of_ble_eq_true rfl⟩) (va_recv hK hPc (ci := 14) (q0 := 0) rfl rfl) hFc (fun a9 h9 => Or.inr h9) hG hS hPc hK hDc rfl hl.1 rfl (Nat.le_of_ble_eq_true rfl) dL_law_470 ⟨Nat.le_of_ble_eq_true rfl, Nat.le_of_ble_eq_true rfl⟩ (fun r_3 u_3 H locs hw hz1 hk1 hP1 hS => ?_)
      obtain ⟨hP, hD⟩ := va_join (wr := ([(o2, .inl (k 6, 1, .inr (.inr (.inr (.inl g2)))))] ++ ([(o, .inl (k 5, 1, .inr (.inl u_1)))]))) (w1 := (fz_MO q2 u_2)) hP hD [2] [0, 1] rfl rfl (by decide) (by decide) hk1 hFc hP1 hDc
      have hP : va_P D vwCl ([(o2, .inl (k 6, 1, .inr (.inr (.inr (.inl g2)))))] ++ ([(o, .inl (k 5, 1, .inr (.inl u_1)))] ++ (fz_MO q2 u_2))) H := hP
      have hD : va_D (fun q : Nat => s.heap.size ≤ q) ([(o2, .inl (k 6, 1, .inr (.inr (.inr (.inl g2)))))] ++ ([(o, .inl (k 5, 1, .inr (.inl u_1)))] ++ (fz_MO q2 u_2))) := hD
      obtain rfl : r_3 = u_2 0 := hw
      refine fz_I (y := 0) ht_2 ?_
      refine lv_iload hx hb dL_law_473 (lv_at hl 1 rfl) ?_
      refine lv_icmp_eq (tgt := 480) hx hb dL_law_475 (by decide) (fun c9 => ?_) (fun c9 => absurd (by decide) c9)
      refine lv_iload hx hb dL_law_480 (lv_at hl 1 rfl) ?_
      refine lv_if_ne (tgt := 497) hx hb dL_law_482 (by decide) (fun c9 => absurd (by decide) c9) (fun c9 => ?_)
      refine lv_aload_n hx hb dL_law_485 rfl (lv_at hl 4 rfl) ?_
      refine lv_iconst (v := 0) hx hb dL_law_486 (by decide) ?_
      refine va_lald hx hb hK hP 1 5 rfl rfl (fz_vin (by decide)) dL_law_487 ?_
      refine fz_V (y := .long ((0 : Int32).toInt64)) (congrArg Value.long hu_1) ?_
      refine lv_iload hx hb dL_law_488 (lv_at hl 0 rfl) ?_
      refine lv_i2l (v := (0 : Int32).toInt64) hx hb dL_law_490 rfl ?_
      refine W.lcmp hx hb dL_law_491 ?_
      refine fz_I (y := 0) (by decide) ?_
      refine lv_if_eq (tgt := 497) hx hb dL_law_492 (by decide) (fun c9 => ?_) (fun c9 => absurd (by decide) c9)
      refine lv_goto (tgt := 2457) hx hb dL_law_497 (by decide) ?_
      exact lw_tail hL C0 (Nat.le_of_ble_eq_true rfl) (Nat.le_of_ble_eq_true rfl) hS ls (lv_sub hl [2, 7] rfl)
    · skip
      exact (fq_142 hc_2).elim
    · skip
      exact (fq_143 hc_2).elim
    · skip
      exact (fq_144 hc_2).elim
    · skip
      exact (fq_145 hc_2).elim
    · skip
      exact (fq_146 hc_2).elim
    · skip
      exact (fq_147 hc_2).elim
  · skip
    obtain rfl : x1 = 0 := (fq_148 x1 x2 hc_1)
    obtain rfl : x2 = 1 := (fq_149 x2 hc_1)
    refine lv_istore (lv' := [(6, .int 0), (5, .int 0), (4, .ref o2), (3, .ref o), (2, .ref (q2 0)), (1, .ref (q 31)), (0, .ref b)]) hx hb dL_law_449 hl (by decide) rfl (fun ls hl => ?_)
    refine lv_aload_n hx hb dL_law_451 rfl (lv_at hl 4 rfl) ?_
    refine lv_aload_n hx hb dL_law_452 rfl (lv_at hl 6 rfl) ?_
    refine lv_iload hx hb dL_law_453 (lv_at hl 1 rfl) ?_
    refine lv_iconst (v := 1) hx hb dL_law_455 (by decide) ?_
    refine lv_iadd hx hb dL_law_456 ?_
    refine fz_I (y := 1) (by decide) ?_
    refine va_sld hx hb hX hbl hbA hS (fz_vin (by decide)) dL_law_457 ?_
    refine fz_I (y := 0) ex1.symm ?_
    refine lv_aload_n hx hb dL_law_458 rfl (lv_at hl 6 rfl) ?_
    refine lv_iload hx hb dL_law_459 (lv_at hl 1 rfl) ?_
    refine lv_iconst (v := 2) hx hb dL_law_461 (by decide) ?_
    refine lv_iadd hx hb dL_law_462 ?_
    refine fz_I (y := 2) (by decide) ?_
    refine va_sld hx hb hX hbl hbA hS (fz_vin (by decide)) dL_law_463 ?_
    refine fz_I (y := 1) ex2.symm ?_
    have hPc := hP.sub (ws' := (fz_WM k q2 f2 pa2 v2)) [1, 2, 3, 4, 5, 6, 7, 8] rfl
    have hDc : va_D (va_A (fz_WM k q2 f2 pa2 v2) H.size) (fz_WM k q2 f2 pa2 v2) := (hD.sub (ws' := (fz_WM k q2 f2 pa2 v2)) [1, 2, 3, 4, 5, 6, 7, 8] (by decide) rfl).self
    have hFc := va_free (wc := (fz_WM k q2 f2 pa2 v2)) hD hS hA [1, 2, 3, 4, 5, 6, 7, 8] rfl
    refine fz_cVi (As := [.int 0, .int 1]) (rest := []) S0 (m_p_node l (va_A (fz_WM k q2 f2 pa2 v2) H.size) D k q2 f2 pa2 v2 0 1 n_f_1_0 n_f_1_7 n_f_1_8 n_f_1_9 n_f_1_10 n_f_1_11 n_f_1_12 n_f_1_15 n_f_1_16 n_f_1_3) (fz_cwV (C := RX10) 2 hts9 fm_841 fm_842 fm_843 fm_844 fm_469 rfl rfl ⟨by decide, by decide, by decide +kernel⟩ ⟨Nat.le_of_ble_eq_true rfl, Nat.le_of_ble_eq_true rfl⟩) (va_recv hK hPc (ci := 14) (q0 := 0) rfl rfl) hFc (fun a9 h9 => Or.inr h9) hG hS hPc hK hDc rfl hl.1 rfl (Nat.le_of_ble_eq_true rfl) dL_law_464 ⟨Nat.le_of_ble_eq_true rfl, Nat.le_of_ble_eq_true rfl⟩ (fun r_2 u_2 H locs hw hz1 hk1 hP1 hS => ?_)
    obtain ⟨hP, hD⟩ := va_join (wr := ([(o2, .inl (k 6, 1, .inr (.inr (.inr (.inl g2)))))] ++ ([(o, .inl (k 5, 1, .inr (.inl u_1)))]))) (w1 := (fz_MO q2 u_2)) hP hD [1, 2, 3, 4, 5, 6, 7, 8] [0, 9] rfl rfl (by decide) (by decide) hk1 hFc hP1 (fz_Dsame (hDc.sub (ws' := fz_MO q2 v2) [0] (by decide) rfl) rfl)
    have hP : va_P D vwCl ([(o2, .inl (k 6, 1, .inr (.inr (.inr (.inl g2)))))] ++ ([(o, .inl (k 5, 1, .inr (.inl u_1)))] ++ (fz_MO q2 u_2))) H := hP
    have hD : va_D (fun q : Nat => s.heap.size ≤ q) ([(o2, .inl (k 6, 1, .inr (.inr (.inr (.inl g2)))))] ++ ([(o, .inl (k 5, 1, .inr (.inl u_1)))] ++ (fz_MO q2 u_2))) := hD
    rcases hw with ⟨rfl, ht_2, hc_2⟩ | ⟨rfl, ht_2, hc_2⟩ | ⟨rfl, ht_2, hc_2⟩ | ⟨rfl, ht_2, hc_2⟩ | ⟨rfl, ht_2, hc_2⟩ | ⟨rfl, ht_2, hc_2⟩ | ⟨rfl, ht_2, hc_2⟩ | ⟨rfl, ht_2, hc_2⟩ | ⟨rfl, ht_2, hc_2⟩
    · skip
      exact (fq_112 hc_2).elim
    · skip
      exact (fq_150 hc_2).elim
    · skip
      exact (fq_151 hc_2).elim
    · skip
      refine lv_istore (lv' := [(7, .int (-1)), (6, .int 0), (5, .int 0), (4, .ref o2), (3, .ref o), (2, .ref (q2 0)), (1, .ref (q 31)), (0, .ref b)]) hx hb dL_law_467 hl (by decide) rfl (fun ls hl => ?_)
      refine lv_aload_n hx hb dL_law_469 rfl (lv_at hl 5 rfl) ?_
      have hPc := hP.sub (ws' := (fz_MO q2 u_2)) [2] rfl
      have hDc : va_D (va_A (fz_MO q2 u_2) H.size) (fz_MO q2 u_2) := (hD.sub (ws' := (fz_MO q2 u_2)) [2] (by decide) rfl).self
      have hFc := va_free (wc := (fz_MO q2 u_2)) hD hS hA [2] rfl
      refine fz_cVi (As := []) (rest := []) S0 (m_thrown l (va_A (fz_MO q2 u_2) H.size) D k q2 u_2) (fz_cwV (C := RX10) 0 hts9 fm_823 fm_824 fm_825 fm_826 fm_469 rfl rfl ⟨by decide, by decide, by decide +kernel⟩ ⟨Nat.le_of_ble_eq_true rfl, Nat.le_of_ble_eq_true rfl⟩) (va_recv hK hPc (ci := 14) (q0 := 0) rfl rfl) hFc (fun a9 h9 => Or.inr h9) hG hS hPc hK hDc rfl hl.1 rfl (Nat.le_of_ble_eq_true rfl) dL_law_470 ⟨Nat.le_of_ble_eq_true rfl, Nat.le_of_ble_eq_true rfl⟩ (fun r_3 u_3 H locs hw hz1 hk1 hP1 hS => ?_)
      obtain ⟨hP, hD⟩ := va_join (wr := ([(o2, .inl (k 6, 1, .inr (.inr (.inr (.inl g2)))))] ++ ([(o, .inl (k 5, 1, .inr (.inl u_1)))]))) (w1 := (fz_MO q2 u_2)) hP hD [2] [0, 1] rfl rfl (by decide) (by decide) hk1 hFc hP1 hDc
      have hP : va_P D vwCl ([(o2, .inl (k 6, 1, .inr (.inr (.inr (.inl g2)))))] ++ ([(o, .inl (k 5, 1, .inr (.inl u_1)))] ++ (fz_MO q2 u_2))) H := hP
      have hD : va_D (fun q : Nat => s.heap.size ≤ q) ([(o2, .inl (k 6, 1, .inr (.inr (.inr (.inl g2)))))] ++ ([(o, .inl (k 5, 1, .inr (.inl u_1)))] ++ (fz_MO q2 u_2))) := hD
      obtain rfl : r_3 = u_2 0 := hw
      refine fz_I (y := 0) ht_2 ?_
      refine lv_iload hx hb dL_law_473 (lv_at hl 1 rfl) ?_
      refine lv_icmp_eq (tgt := 480) hx hb dL_law_475 (by decide) (fun c9 => ?_) (fun c9 => absurd (by decide) c9)
      refine lv_iload hx hb dL_law_480 (lv_at hl 1 rfl) ?_
      refine lv_if_ne (tgt := 497) hx hb dL_law_482 (by decide) (fun c9 => absurd (by decide) c9) (fun c9 => ?_)
      refine lv_aload_n hx hb dL_law_485 rfl (lv_at hl 4 rfl) ?_
      refine lv_iconst (v := 0) hx hb dL_law_486 (by decide) ?_
      refine va_lald hx hb hK hP 1 5 rfl rfl (fz_vin (by decide)) dL_law_487 ?_
      refine fz_V (y := .long (((-1) : Int32).toInt64)) (congrArg Value.long hu_1) ?_
      refine lv_iload hx hb dL_law_488 (lv_at hl 0 rfl) ?_
      refine lv_i2l (v := ((-1) : Int32).toInt64) hx hb dL_law_490 rfl ?_
      refine W.lcmp hx hb dL_law_491 ?_
      refine fz_I (y := 0) (by decide) ?_
      refine lv_if_eq (tgt := 497) hx hb dL_law_492 (by decide) (fun c9 => ?_) (fun c9 => absurd (by decide) c9)
      refine lv_goto (tgt := 2457) hx hb dL_law_497 (by decide) ?_
      exact lw_tail hL C0 (Nat.le_of_ble_eq_true rfl) (Nat.le_of_ble_eq_true rfl) hS ls (lv_sub hl [2, 7] rfl)
    · skip
      exact (fq_152 hc_2).elim
    · skip
      exact (fq_153 hc_2).elim
    · skip
      exact (fq_154 hc_2).elim
    · skip
      exact (fq_155 hc_2).elim
    · skip
      exact (fq_156 hc_2).elim
  · skip
    obtain rfl : x1 = 0 := (fq_157 x1 x2 hc_1)
    obtain rfl : x2 = 2 := (fq_158 x2 hc_1)
    refine lv_istore (lv' := [(6, .int 0), (5, .int 0), (4, .ref o2), (3, .ref o), (2, .ref (q2 0)), (1, .ref (q 31)), (0, .ref b)]) hx hb dL_law_449 hl (by decide) rfl (fun ls hl => ?_)
    refine lv_aload_n hx hb dL_law_451 rfl (lv_at hl 4 rfl) ?_
    refine lv_aload_n hx hb dL_law_452 rfl (lv_at hl 6 rfl) ?_
    refine lv_iload hx hb dL_law_453 (lv_at hl 1 rfl) ?_
    refine lv_iconst (v := 1) hx hb dL_law_455 (by decide) ?_
    refine lv_iadd hx hb dL_law_456 ?_
    refine fz_I (y := 1) (by decide) ?_
    refine va_sld hx hb hX hbl hbA hS (fz_vin (by decide)) dL_law_457 ?_
    refine fz_I (y := 0) ex1.symm ?_
    refine lv_aload_n hx hb dL_law_458 rfl (lv_at hl 6 rfl) ?_
    refine lv_iload hx hb dL_law_459 (lv_at hl 1 rfl) ?_
    refine lv_iconst (v := 2) hx hb dL_law_461 (by decide) ?_
    refine lv_iadd hx hb dL_law_462 ?_
    refine fz_I (y := 2) (by decide) ?_
    refine va_sld hx hb hX hbl hbA hS (fz_vin (by decide)) dL_law_463 ?_
    refine fz_I (y := 2) ex2.symm ?_
    have hPc := hP.sub (ws' := (fz_WM k q2 f2 pa2 v2)) [1, 2, 3, 4, 5, 6, 7, 8] rfl
    have hDc : va_D (va_A (fz_WM k q2 f2 pa2 v2) H.size) (fz_WM k q2 f2 pa2 v2) := (hD.sub (ws' := (fz_WM k q2 f2 pa2 v2)) [1, 2, 3, 4, 5, 6, 7, 8] (by decide) rfl).self
    have hFc := va_free (wc := (fz_WM k q2 f2 pa2 v2)) hD hS hA [1, 2, 3, 4, 5, 6, 7, 8] rfl
    refine fz_cVi (As := [.int 0, .int 2]) (rest := []) S0 (m_p_node l (va_A (fz_WM k q2 f2 pa2 v2) H.size) D k q2 f2 pa2 v2 0 2 n_f_1_0 n_f_1_7 n_f_1_8 n_f_1_9 n_f_1_10 n_f_1_11 n_f_1_12 n_f_1_15 n_f_1_16 n_f_1_3) (fz_cwV (C := RX10) 2 hts9 fm_841 fm_842 fm_843 fm_844 fm_469 rfl rfl ⟨by decide, by decide, by decide +kernel⟩ ⟨Nat.le_of_ble_eq_true rfl, Nat.le_of_ble_eq_true rfl⟩) (va_recv hK hPc (ci := 14) (q0 := 0) rfl rfl) hFc (fun a9 h9 => Or.inr h9) hG hS hPc hK hDc rfl hl.1 rfl (Nat.le_of_ble_eq_true rfl) dL_law_464 ⟨Nat.le_of_ble_eq_true rfl, Nat.le_of_ble_eq_true rfl⟩ (fun r_2 u_2 H locs hw hz1 hk1 hP1 hS => ?_)
    obtain ⟨hP, hD⟩ := va_join (wr := ([(o2, .inl (k 6, 1, .inr (.inr (.inr (.inl g2)))))] ++ ([(o, .inl (k 5, 1, .inr (.inl u_1)))]))) (w1 := (fz_MO q2 u_2)) hP hD [1, 2, 3, 4, 5, 6, 7, 8] [0, 9] rfl rfl (by decide) (by decide) hk1 hFc hP1 (fz_Dsame (hDc.sub (ws' := fz_MO q2 v2) [0] (by decide) rfl) rfl)
    have hP : va_P D vwCl ([(o2, .inl (k 6, 1, .inr (.inr (.inr (.inl g2)))))] ++ ([(o, .inl (k 5, 1, .inr (.inl u_1)))] ++ (fz_MO q2 u_2))) H := hP
    have hD : va_D (fun q : Nat => s.heap.size ≤ q) ([(o2, .inl (k 6, 1, .inr (.inr (.inr (.inl g2)))))] ++ ([(o, .inl (k 5, 1, .inr (.inl u_1)))] ++ (fz_MO q2 u_2))) := hD
    rcases hw with ⟨rfl, ht_2, hc_2⟩ | ⟨rfl, ht_2, hc_2⟩ | ⟨rfl, ht_2, hc_2⟩ | ⟨rfl, ht_2, hc_2⟩ | ⟨rfl, ht_2, hc_2⟩ | ⟨rfl, ht_2, hc_2⟩ | ⟨rfl, ht_2, hc_2⟩ | ⟨rfl, ht_2, hc_2⟩ | ⟨rfl, ht_2, hc_2⟩
    · skip
      exact (fq_112 hc_2).elim
    · skip
      exact (fq_159 hc_2).elim
    · skip
      exact (fq_160 hc_2).elim
    · skip
      exact (fq_161 hc_2).elim
    · skip
      refine lv_istore (lv' := [(7, .int 0), (6, .int 0), (5, .int 0), (4, .ref o2), (3, .ref o), (2, .ref (q2 0)), (1, .ref (q 31)), (0, .ref b)]) hx hb dL_law_467 hl (by decide) rfl (fun ls hl => ?_)
      refine lv_aload_n hx hb dL_law_469 rfl (lv_at hl 5 rfl) ?_
      have hPc := hP.sub (ws' := (fz_MO q2 u_2)) [2] rfl
      have hDc : va_D (va_A (fz_MO q2 u_2) H.size) (fz_MO q2 u_2) := (hD.sub (ws' := (fz_MO q2 u_2)) [2] (by decide) rfl).self
      have hFc := va_free (wc := (fz_MO q2 u_2)) hD hS hA [2] rfl
      refine fz_cVi (As := []) (rest := []) S0 (m_thrown l (va_A (fz_MO q2 u_2) H.size) D k q2 u_2) (fz_cwV (C := RX10) 0 hts9 fm_823 fm_824 fm_825 fm_826 fm_469 rfl rfl ⟨by decide, by decide, by decide +kernel⟩ ⟨Nat.le_of_ble_eq_true rfl, Nat.le_of_ble_eq_true rfl⟩) (va_recv hK hPc (ci := 14) (q0 := 0) rfl rfl) hFc (fun a9 h9 => Or.inr h9) hG hS hPc hK hDc rfl hl.1 rfl (Nat.le_of_ble_eq_true rfl) dL_law_470 ⟨Nat.le_of_ble_eq_true rfl, Nat.le_of_ble_eq_true rfl⟩ (fun r_3 u_3 H locs hw hz1 hk1 hP1 hS => ?_)
      obtain ⟨hP, hD⟩ := va_join (wr := ([(o2, .inl (k 6, 1, .inr (.inr (.inr (.inl g2)))))] ++ ([(o, .inl (k 5, 1, .inr (.inl u_1)))]))) (w1 := (fz_MO q2 u_2)) hP hD [2] [0, 1] rfl rfl (by decide) (by decide) hk1 hFc hP1 hDc
      have hP : va_P D vwCl ([(o2, .inl (k 6, 1, .inr (.inr (.inr (.inl g2)))))] ++ ([(o, .inl (k 5, 1, .inr (.inl u_1)))] ++ (fz_MO q2 u_2))) H := hP
      have hD : va_D (fun q : Nat => s.heap.size ≤ q) ([(o2, .inl (k 6, 1, .inr (.inr (.inr (.inl g2)))))] ++ ([(o, .inl (k 5, 1, .inr (.inl u_1)))] ++ (fz_MO q2 u_2))) := hD
      obtain rfl : r_3 = u_2 0 := hw
      refine fz_I (y := 0) ht_2 ?_
      refine lv_iload hx hb dL_law_473 (lv_at hl 1 rfl) ?_
      refine lv_icmp_eq (tgt := 480) hx hb dL_law_475 (by decide) (fun c9 => ?_) (fun c9 => absurd (by decide) c9)
      refine lv_iload hx hb dL_law_480 (lv_at hl 1 rfl) ?_
      refine lv_if_ne (tgt := 497) hx hb dL_law_482 (by decide) (fun c9 => absurd (by decide) c9) (fun c9 => ?_)
      refine lv_aload_n hx hb dL_law_485 rfl (lv_at hl 4 rfl) ?_
      refine lv_iconst (v := 0) hx hb dL_law_486 (by decide) ?_
      refine va_lald hx hb hK hP 1 5 rfl rfl (fz_vin (by decide)) dL_law_487 ?_
      refine fz_V (y := .long ((0 : Int32).toInt64)) (congrArg Value.long hu_1) ?_
      refine lv_iload hx hb dL_law_488 (lv_at hl 0 rfl) ?_
      refine lv_i2l (v := (0 : Int32).toInt64) hx hb dL_law_490 rfl ?_
      refine W.lcmp hx hb dL_law_491 ?_
      refine fz_I (y := 0) (by decide) ?_
      refine lv_if_eq (tgt := 497) hx hb dL_law_492 (by decide) (fun c9 => ?_) (fun c9 => absurd (by decide) c9)
      refine lv_goto (tgt := 2457) hx hb dL_law_497 (by decide) ?_
      exact lw_tail hL C0 (Nat.le_of_ble_eq_true rfl) (Nat.le_of_ble_eq_true rfl) hS ls (lv_sub hl [2, 7] rfl)
    · skip
      exact (fq_162 hc_2).elim
    · skip
      exact (fq_163 hc_2).elim
    · skip
      exact (fq_164 hc_2).elim
    · skip
      exact (fq_165 hc_2).elim
  · skip
    obtain rfl : x1 = 0 := (fq_166 x1 x2 hc_1)
    refine lv_istore (lv' := [(6, .int 0), (5, .int 0), (4, .ref o2), (3, .ref o), (2, .ref (q2 0)), (1, .ref (q 31)), (0, .ref b)]) hx hb dL_law_449 hl (by decide) rfl (fun ls hl => ?_)
    refine lv_aload_n hx hb dL_law_451 rfl (lv_at hl 4 rfl) ?_
    refine lv_aload_n hx hb dL_law_452 rfl (lv_at hl 6 rfl) ?_
    refine lv_iload hx hb dL_law_453 (lv_at hl 1 rfl) ?_
    refine lv_iconst (v := 1) hx hb dL_law_455 (by decide) ?_
    refine lv_iadd hx hb dL_law_456 ?_
    refine fz_I (y := 1) (by decide) ?_
    refine va_sld hx hb hX hbl hbA hS (fz_vin (by decide)) dL_law_457 ?_
    refine fz_I (y := 0) ex1.symm ?_
    refine lv_aload_n hx hb dL_law_458 rfl (lv_at hl 6 rfl) ?_
    refine lv_iload hx hb dL_law_459 (lv_at hl 1 rfl) ?_
    refine lv_iconst (v := 2) hx hb dL_law_461 (by decide) ?_
    refine lv_iadd hx hb dL_law_462 ?_
    refine fz_I (y := 2) (by decide) ?_
    refine va_sld hx hb hX hbl hbA hS (fz_vin (by decide)) dL_law_463 ?_
    refine fz_I (y := x2) ex2.symm ?_
    have hPc := hP.sub (ws' := (fz_WM k q2 f2 pa2 v2)) [1, 2, 3, 4, 5, 6, 7, 8] rfl
    have hDc : va_D (va_A (fz_WM k q2 f2 pa2 v2) H.size) (fz_WM k q2 f2 pa2 v2) := (hD.sub (ws' := (fz_WM k q2 f2 pa2 v2)) [1, 2, 3, 4, 5, 6, 7, 8] (by decide) rfl).self
    have hFc := va_free (wc := (fz_WM k q2 f2 pa2 v2)) hD hS hA [1, 2, 3, 4, 5, 6, 7, 8] rfl
    refine fz_cVi (As := [.int 0, .int x2]) (rest := []) S0 (m_p_node l (va_A (fz_WM k q2 f2 pa2 v2) H.size) D k q2 f2 pa2 v2 0 x2 n_f_1_0 n_f_1_7 n_f_1_8 n_f_1_9 n_f_1_10 n_f_1_11 n_f_1_12 n_f_1_15 n_f_1_16 n_f_1_3) (fz_cwV (C := RX10) 2 hts9 fm_841 fm_842 fm_843 fm_844 fm_469 rfl rfl ⟨by decide, by decide, by decide +kernel⟩ ⟨Nat.le_of_ble_eq_true rfl, Nat.le_of_ble_eq_true rfl⟩) (va_recv hK hPc (ci := 14) (q0 := 0) rfl rfl) hFc (fun a9 h9 => Or.inr h9) hG hS hPc hK hDc rfl hl.1 rfl (Nat.le_of_ble_eq_true rfl) dL_law_464 ⟨Nat.le_of_ble_eq_true rfl, Nat.le_of_ble_eq_true rfl⟩ (fun r_2 u_2 H locs hw hz1 hk1 hP1 hS => ?_)
    obtain ⟨hP, hD⟩ := va_join (wr := ([(o2, .inl (k 6, 1, .inr (.inr (.inr (.inl g2)))))] ++ ([(o, .inl (k 5, 1, .inr (.inl u_1)))]))) (w1 := (fz_MO q2 u_2)) hP hD [1, 2, 3, 4, 5, 6, 7, 8] [0, 9] rfl rfl (by decide) (by decide) hk1 hFc hP1 (fz_Dsame (hDc.sub (ws' := fz_MO q2 v2) [0] (by decide) rfl) rfl)
    have hP : va_P D vwCl ([(o2, .inl (k 6, 1, .inr (.inr (.inr (.inl g2)))))] ++ ([(o, .inl (k 5, 1, .inr (.inl u_1)))] ++ (fz_MO q2 u_2))) H := hP
    have hD : va_D (fun q : Nat => s.heap.size ≤ q) ([(o2, .inl (k 6, 1, .inr (.inr (.inr (.inl g2)))))] ++ ([(o, .inl (k 5, 1, .inr (.inl u_1)))] ++ (fz_MO q2 u_2))) := hD
    rcases hw with ⟨rfl, ht_2, hc_2⟩ | ⟨rfl, ht_2, hc_2⟩ | ⟨rfl, ht_2, hc_2⟩ | ⟨rfl, ht_2, hc_2⟩ | ⟨rfl, ht_2, hc_2⟩ | ⟨rfl, ht_2, hc_2⟩ | ⟨rfl, ht_2, hc_2⟩ | ⟨rfl, ht_2, hc_2⟩ | ⟨rfl, ht_2, hc_2⟩
    · skip
      exact (fq_112 hc_2).elim
    · skip
      exact (fq_167 x2 hc_1 hc_2).elim
    · skip
      exact (fq_168 x2 hc_1 hc_2).elim
    · skip
      exact (fq_169 x2 hc_1 hc_2).elim
    · skip
      exact (fq_170 x2 hc_1 hc_2).elim
    · skip
      refine lv_istore (lv' := [(7, .int (-1)), (6, .int 0), (5, .int 0), (4, .ref o2), (3, .ref o), (2, .ref (q2 0)), (1, .ref (q 31)), (0, .ref b)]) hx hb dL_law_467 hl (by decide) rfl (fun ls hl => ?_)
      refine lv_aload_n hx hb dL_law_469 rfl (lv_at hl 5 rfl) ?_
      have hPc := hP.sub (ws' := (fz_MO q2 u_2)) [2] rfl
      have hDc : va_D (va_A (fz_MO q2 u_2) H.size) (fz_MO q2 u_2) := (hD.sub (ws' := (fz_MO q2 u_2)) [2] (by decide) rfl).self
      have hFc := va_free (wc := (fz_MO q2 u_2)) hD hS hA [2] rfl
      refine fz_cVi (As := []) (rest := []) S0 (m_thrown l (va_A (fz_MO q2 u_2) H.size) D k q2 u_2) (fz_cwV (C := RX10) 0 hts9 fm_823 fm_824 fm_825 fm_826 fm_469 rfl rfl ⟨by decide, by decide, by decide +kernel⟩ ⟨Nat.le_of_ble_eq_true rfl, Nat.le_of_ble_eq_true rfl⟩) (va_recv hK hPc (ci := 14) (q0 := 0) rfl rfl) hFc (fun a9 h9 => Or.inr h9) hG hS hPc hK hDc rfl hl.1 rfl (Nat.le_of_ble_eq_true rfl) dL_law_470 ⟨Nat.le_of_ble_eq_true rfl, Nat.le_of_ble_eq_true rfl⟩ (fun r_3 u_3 H locs hw hz1 hk1 hP1 hS => ?_)
      obtain ⟨hP, hD⟩ := va_join (wr := ([(o2, .inl (k 6, 1, .inr (.inr (.inr (.inl g2)))))] ++ ([(o, .inl (k 5, 1, .inr (.inl u_1)))]))) (w1 := (fz_MO q2 u_2)) hP hD [2] [0, 1] rfl rfl (by decide) (by decide) hk1 hFc hP1 hDc
      have hP : va_P D vwCl ([(o2, .inl (k 6, 1, .inr (.inr (.inr (.inl g2)))))] ++ ([(o, .inl (k 5, 1, .inr (.inl u_1)))] ++ (fz_MO q2 u_2))) H := hP
      have hD : va_D (fun q : Nat => s.heap.size ≤ q) ([(o2, .inl (k 6, 1, .inr (.inr (.inr (.inl g2)))))] ++ ([(o, .inl (k 5, 1, .inr (.inl u_1)))] ++ (fz_MO q2 u_2))) := hD
      obtain rfl : r_3 = u_2 0 := hw
      refine fz_I (y := 0) ht_2 ?_
      refine lv_iload hx hb dL_law_473 (lv_at hl 1 rfl) ?_
      refine lv_icmp_eq (tgt := 480) hx hb dL_law_475 (by decide) (fun c9 => ?_) (fun c9 => absurd (by decide) c9)
      refine lv_iload hx hb dL_law_480 (lv_at hl 1 rfl) ?_
      refine lv_if_ne (tgt := 497) hx hb dL_law_482 (by decide) (fun c9 => absurd (by decide) c9) (fun c9 => ?_)
      refine lv_aload_n hx hb dL_law_485 rfl (lv_at hl 4 rfl) ?_
      refine lv_iconst (v := 0) hx hb dL_law_486 (by decide) ?_
      refine va_lald hx hb hK hP 1 5 rfl rfl (fz_vin (by decide)) dL_law_487 ?_
      refine fz_V (y := .long (((-1) : Int32).toInt64)) (congrArg Value.long hu_1) ?_
      refine lv_iload hx hb dL_law_488 (lv_at hl 0 rfl) ?_
      refine lv_i2l (v := ((-1) : Int32).toInt64) hx hb dL_law_490 rfl ?_
      refine W.lcmp hx hb dL_law_491 ?_
      refine fz_I (y := 0) (by decide) ?_
      refine lv_if_eq (tgt := 497) hx hb dL_law_492 (by decide) (fun c9 => ?_) (fun c9 => absurd (by decide) c9)
      refine lv_goto (tgt := 2457) hx hb dL_law_497 (by decide) ?_
      exact lw_tail hL C0 (Nat.le_of_ble_eq_true rfl) (Nat.le_of_ble_eq_true rfl) hS ls (lv_sub hl [2, 7] rfl)
    · skip
      exact (fq_171 x2 hc_1 hc_2).elim
    · skip
      exact (fq_172 x2 hc_1 hc_2).elim
    · skip
      exact (fq_173 x2 hc_1 hc_2).elim
  · skip
    obtain rfl : x1 = 0 := (fq_174 x1 x2 hc_1)
    refine lv_istore (lv' := [(6, .int 0), (5, .int 0), (4, .ref o2), (3, .ref o), (2, .ref (q2 0)), (1, .ref (q 31)), (0, .ref b)]) hx hb dL_law_449 hl (by decide) rfl (fun ls hl => ?_)
    refine lv_aload_n hx hb dL_law_451 rfl (lv_at hl 4 rfl) ?_
    refine lv_aload_n hx hb dL_law_452 rfl (lv_at hl 6 rfl) ?_
    refine lv_iload hx hb dL_law_453 (lv_at hl 1 rfl) ?_
    refine lv_iconst (v := 1) hx hb dL_law_455 (by decide) ?_
    refine lv_iadd hx hb dL_law_456 ?_
    refine fz_I (y := 1) (by decide) ?_
    refine va_sld hx hb hX hbl hbA hS (fz_vin (by decide)) dL_law_457 ?_
    refine fz_I (y := 0) ex1.symm ?_
    refine lv_aload_n hx hb dL_law_458 rfl (lv_at hl 6 rfl) ?_
    refine lv_iload hx hb dL_law_459 (lv_at hl 1 rfl) ?_
    refine lv_iconst (v := 2) hx hb dL_law_461 (by decide) ?_
    refine lv_iadd hx hb dL_law_462 ?_
    refine fz_I (y := 2) (by decide) ?_
    refine va_sld hx hb hX hbl hbA hS (fz_vin (by decide)) dL_law_463 ?_
    refine fz_I (y := x2) ex2.symm ?_
    have hPc := hP.sub (ws' := (fz_WM k q2 f2 pa2 v2)) [1, 2, 3, 4, 5, 6, 7, 8] rfl
    have hDc : va_D (va_A (fz_WM k q2 f2 pa2 v2) H.size) (fz_WM k q2 f2 pa2 v2) := (hD.sub (ws' := (fz_WM k q2 f2 pa2 v2)) [1, 2, 3, 4, 5, 6, 7, 8] (by decide) rfl).self
    have hFc := va_free (wc := (fz_WM k q2 f2 pa2 v2)) hD hS hA [1, 2, 3, 4, 5, 6, 7, 8] rfl
    refine fz_cVi (As := [.int 0, .int x2]) (rest := []) S0 (m_p_node l (va_A (fz_WM k q2 f2 pa2 v2) H.size) D k q2 f2 pa2 v2 0 x2 n_f_1_0 n_f_1_7 n_f_1_8 n_f_1_9 n_f_1_10 n_f_1_11 n_f_1_12 n_f_1_15 n_f_1_16 n_f_1_3) (fz_cwV (C := RX10) 2 hts9 fm_841 fm_842 fm_843 fm_844 fm_469 rfl rfl ⟨by decide, by decide, by decide +kernel⟩ ⟨Nat.le_of_ble_eq_true rfl, Nat.le_of_ble_eq_true rfl⟩) (va_recv hK hPc (ci := 14) (q0 := 0) rfl rfl) hFc (fun a9 h9 => Or.inr h9) hG hS hPc hK hDc rfl hl.1 rfl (Nat.le_of_ble_eq_true rfl) dL_law_464 ⟨Nat.le_of_ble_eq_true rfl, Nat.le_of_ble_eq_true rfl⟩ (fun r_2 u_2 H locs hw hz1 hk1 hP1 hS => ?_)
    obtain ⟨hP, hD⟩ := va_join (wr := ([(o2, .inl (k 6, 1, .inr (.inr (.inr (.inl g2)))))] ++ ([(o, .inl (k 5, 1, .inr (.inl u_1)))]))) (w1 := (fz_MO q2 u_2)) hP hD [1, 2, 3, 4, 5, 6, 7, 8] [0, 9] rfl rfl (by decide) (by decide) hk1 hFc hP1 (fz_Dsame (hDc.sub (ws' := fz_MO q2 v2) [0] (by decide) rfl) rfl)
    have hP : va_P D vwCl ([(o2, .inl (k 6, 1, .inr (.inr (.inr (.inl g2)))))] ++ ([(o, .inl (k 5, 1, .inr (.inl u_1)))] ++ (fz_MO q2 u_2))) H := hP
    have hD : va_D (fun q : Nat => s.heap.size ≤ q) ([(o2, .inl (k 6, 1, .inr (.inr (.inr (.inl g2)))))] ++ ([(o, .inl (k 5, 1, .inr (.inl u_1)))] ++ (fz_MO q2 u_2))) := hD
    rcases hw with ⟨rfl, ht_2, hc_2⟩ | ⟨rfl, ht_2, hc_2⟩ | ⟨rfl, ht_2, hc_2⟩ | ⟨rfl, ht_2, hc_2⟩ | ⟨rfl, ht_2, hc_2⟩ | ⟨rfl, ht_2, hc_2⟩ | ⟨rfl, ht_2, hc_2⟩ | ⟨rfl, ht_2, hc_2⟩ | ⟨rfl, ht_2, hc_2⟩
    · skip
      exact (fq_112 hc_2).elim
    · skip
      exact (fq_175 x2 hc_1 hc_2).elim
    · skip
      exact (fq_176 x2 hc_1 hc_2).elim
    · skip
      exact (fq_177 x2 hc_1 hc_2).elim
    · skip
      exact (fq_178 x2 hc_1 hc_2).elim
    · skip
      exact (fq_179 x2 hc_1 hc_2).elim
    · skip
      refine lv_istore (lv' := [(7, .int 0), (6, .int 0), (5, .int 0), (4, .ref o2), (3, .ref o), (2, .ref (q2 0)), (1, .ref (q 31)), (0, .ref b)]) hx hb dL_law_467 hl (by decide) rfl (fun ls hl => ?_)
      refine lv_aload_n hx hb dL_law_469 rfl (lv_at hl 5 rfl) ?_
      have hPc := hP.sub (ws' := (fz_MO q2 u_2)) [2] rfl
      have hDc : va_D (va_A (fz_MO q2 u_2) H.size) (fz_MO q2 u_2) := (hD.sub (ws' := (fz_MO q2 u_2)) [2] (by decide) rfl).self
      have hFc := va_free (wc := (fz_MO q2 u_2)) hD hS hA [2] rfl
      refine fz_cVi (As := []) (rest := []) S0 (m_thrown l (va_A (fz_MO q2 u_2) H.size) D k q2 u_2) (fz_cwV (C := RX10) 0 hts9 fm_823 fm_824 fm_825 fm_826 fm_469 rfl rfl ⟨by decide, by decide, by decide +kernel⟩ ⟨Nat.le_of_ble_eq_true rfl, Nat.le_of_ble_eq_true rfl⟩) (va_recv hK hPc (ci := 14) (q0 := 0) rfl rfl) hFc (fun a9 h9 => Or.inr h9) hG hS hPc hK hDc rfl hl.1 rfl (Nat.le_of_ble_eq_true rfl) dL_law_470 ⟨Nat.le_of_ble_eq_true rfl, Nat.le_of_ble_eq_true rfl⟩ (fun r_3 u_3 H locs hw hz1 hk1 hP1 hS => ?_)
      obtain ⟨hP, hD⟩ := va_join (wr := ([(o2, .inl (k 6, 1, .inr (.inr (.inr (.inl g2)))))] ++ ([(o, .inl (k 5, 1, .inr (.inl u_1)))]))) (w1 := (fz_MO q2 u_2)) hP hD [2] [0, 1] rfl rfl (by decide) (by decide) hk1 hFc hP1 hDc
      have hP : va_P D vwCl ([(o2, .inl (k 6, 1, .inr (.inr (.inr (.inl g2)))))] ++ ([(o, .inl (k 5, 1, .inr (.inl u_1)))] ++ (fz_MO q2 u_2))) H := hP
      have hD : va_D (fun q : Nat => s.heap.size ≤ q) ([(o2, .inl (k 6, 1, .inr (.inr (.inr (.inl g2)))))] ++ ([(o, .inl (k 5, 1, .inr (.inl u_1)))] ++ (fz_MO q2 u_2))) := hD
      obtain rfl : r_3 = u_2 0 := hw
      refine fz_I (y := 0) ht_2 ?_
      refine lv_iload hx hb dL_law_473 (lv_at hl 1 rfl) ?_
      refine lv_icmp_eq (tgt := 480) hx hb dL_law_475 (by decide) (fun c9 => ?_) (fun c9 => absurd (by decide) c9)
      refine lv_iload hx hb dL_law_480 (lv_at hl 1 rfl) ?_
      refine lv_if_ne (tgt := 497) hx hb dL_law_482 (by decide) (fun c9 => absurd (by decide) c9) (fun c9 => ?_)
      refine lv_aload_n hx hb dL_law_485 rfl (lv_at hl 4 rfl) ?_
      refine lv_iconst (v := 0) hx hb dL_law_486 (by decide) ?_
      refine va_lald hx hb hK hP 1 5 rfl rfl (fz_vin (by decide)) dL_law_487 ?_
      refine fz_V (y := .long ((0 : Int32).toInt64)) (congrArg Value.long hu_1) ?_
      refine lv_iload hx hb dL_law_488 (lv_at hl 0 rfl) ?_
      refine lv_i2l (v := (0 : Int32).toInt64) hx hb dL_law_490 rfl ?_
      refine W.lcmp hx hb dL_law_491 ?_
      refine fz_I (y := 0) (by decide) ?_
      refine lv_if_eq (tgt := 497) hx hb dL_law_492 (by decide) (fun c9 => ?_) (fun c9 => absurd (by decide) c9)
      refine lv_goto (tgt := 2457) hx hb dL_law_497 (by decide) ?_
      exact lw_tail hL C0 (Nat.le_of_ble_eq_true rfl) (Nat.le_of_ble_eq_true rfl) hS ls (lv_sub hl [2, 7] rfl)
    · skip
      exact (fq_180 x2 hc_1 hc_2).elim
    · skip
      exact (fq_181 x2 hc_1 hc_2).elim
  · skip
    obtain rfl : x1 = 0 := (fq_182 x1 x2 hc_1)
    refine lv_istore (lv' := [(6, .int 0), (5, .int 0), (4, .ref o2), (3, .ref o), (2, .ref (q2 0)), (1, .ref (q 31)), (0, .ref b)]) hx hb dL_law_449 hl (by decide) rfl (fun ls hl => ?_)
    refine lv_aload_n hx hb dL_law_451 rfl (lv_at hl 4 rfl) ?_
    refine lv_aload_n hx hb dL_law_452 rfl (lv_at hl 6 rfl) ?_
    refine lv_iload hx hb dL_law_453 (lv_at hl 1 rfl) ?_
    refine lv_iconst (v := 1) hx hb dL_law_455 (by decide) ?_
    refine lv_iadd hx hb dL_law_456 ?_
    refine fz_I (y := 1) (by decide) ?_
    refine va_sld hx hb hX hbl hbA hS (fz_vin (by decide)) dL_law_457 ?_
    refine fz_I (y := 0) ex1.symm ?_
    refine lv_aload_n hx hb dL_law_458 rfl (lv_at hl 6 rfl) ?_
    refine lv_iload hx hb dL_law_459 (lv_at hl 1 rfl) ?_
    refine lv_iconst (v := 2) hx hb dL_law_461 (by decide) ?_
    refine lv_iadd hx hb dL_law_462 ?_
    refine fz_I (y := 2) (by decide) ?_
    refine va_sld hx hb hX hbl hbA hS (fz_vin (by decide)) dL_law_463 ?_
    refine fz_I (y := x2) ex2.symm ?_
    have hPc := hP.sub (ws' := (fz_WM k q2 f2 pa2 v2)) [1, 2, 3, 4, 5, 6, 7, 8] rfl
    have hDc : va_D (va_A (fz_WM k q2 f2 pa2 v2) H.size) (fz_WM k q2 f2 pa2 v2) := (hD.sub (ws' := (fz_WM k q2 f2 pa2 v2)) [1, 2, 3, 4, 5, 6, 7, 8] (by decide) rfl).self
    have hFc := va_free (wc := (fz_WM k q2 f2 pa2 v2)) hD hS hA [1, 2, 3, 4, 5, 6, 7, 8] rfl
    refine fz_cVi (As := [.int 0, .int x2]) (rest := []) S0 (m_p_node l (va_A (fz_WM k q2 f2 pa2 v2) H.size) D k q2 f2 pa2 v2 0 x2 n_f_1_0 n_f_1_7 n_f_1_8 n_f_1_9 n_f_1_10 n_f_1_11 n_f_1_12 n_f_1_15 n_f_1_16 n_f_1_3) (fz_cwV (C := RX10) 2 hts9 fm_841 fm_842 fm_843 fm_844 fm_469 rfl rfl ⟨by decide, by decide, by decide +kernel⟩ ⟨Nat.le_of_ble_eq_true rfl, Nat.le_of_ble_eq_true rfl⟩) (va_recv hK hPc (ci := 14) (q0 := 0) rfl rfl) hFc (fun a9 h9 => Or.inr h9) hG hS hPc hK hDc rfl hl.1 rfl (Nat.le_of_ble_eq_true rfl) dL_law_464 ⟨Nat.le_of_ble_eq_true rfl, Nat.le_of_ble_eq_true rfl⟩ (fun r_2 u_2 H locs hw hz1 hk1 hP1 hS => ?_)
    obtain ⟨hP, hD⟩ := va_join (wr := ([(o2, .inl (k 6, 1, .inr (.inr (.inr (.inl g2)))))] ++ ([(o, .inl (k 5, 1, .inr (.inl u_1)))]))) (w1 := (fz_MO q2 u_2)) hP hD [1, 2, 3, 4, 5, 6, 7, 8] [0, 9] rfl rfl (by decide) (by decide) hk1 hFc hP1 (fz_Dsame (hDc.sub (ws' := fz_MO q2 v2) [0] (by decide) rfl) rfl)
    have hP : va_P D vwCl ([(o2, .inl (k 6, 1, .inr (.inr (.inr (.inl g2)))))] ++ ([(o, .inl (k 5, 1, .inr (.inl u_1)))] ++ (fz_MO q2 u_2))) H := hP
    have hD : va_D (fun q : Nat => s.heap.size ≤ q) ([(o2, .inl (k 6, 1, .inr (.inr (.inr (.inl g2)))))] ++ ([(o, .inl (k 5, 1, .inr (.inl u_1)))] ++ (fz_MO q2 u_2))) := hD
    rcases hw with ⟨rfl, ht_2, hc_2⟩ | ⟨rfl, ht_2, hc_2⟩ | ⟨rfl, ht_2, hc_2⟩ | ⟨rfl, ht_2, hc_2⟩ | ⟨rfl, ht_2, hc_2⟩ | ⟨rfl, ht_2, hc_2⟩ | ⟨rfl, ht_2, hc_2⟩ | ⟨rfl, ht_2, hc_2⟩ | ⟨rfl, ht_2, hc_2⟩
    · skip
      exact (fq_112 hc_2).elim
    · skip
      exact (fq_183 x2 hc_1 hc_2).elim
    · skip
      exact (fq_184 x2 hc_1 hc_2).elim
    · skip
      exact (fq_185 x2 hc_1 hc_2).elim
    · skip
      exact (fq_186 x2 hc_1 hc_2).elim
    · skip
      exact (fq_187 x2 hc_1 hc_2).elim
    · skip
      exact (fq_188 x2 hc_1 hc_2).elim
    · skip
      refine lv_istore (lv' := [(7, .int (-1)), (6, .int 0), (5, .int 0), (4, .ref o2), (3, .ref o), (2, .ref (q2 0)), (1, .ref (q 31)), (0, .ref b)]) hx hb dL_law_467 hl (by decide) rfl (fun ls hl => ?_)
      refine lv_aload_n hx hb dL_law_469 rfl (lv_at hl 5 rfl) ?_
      have hPc := hP.sub (ws' := (fz_MO q2 u_2)) [2] rfl
      have hDc : va_D (va_A (fz_MO q2 u_2) H.size) (fz_MO q2 u_2) := (hD.sub (ws' := (fz_MO q2 u_2)) [2] (by decide) rfl).self
      have hFc := va_free (wc := (fz_MO q2 u_2)) hD hS hA [2] rfl
      refine fz_cVi (As := []) (rest := []) S0 (m_thrown l (va_A (fz_MO q2 u_2) H.size) D k q2 u_2) (fz_cwV (C := RX10) 0 hts9 fm_823 fm_824 fm_825 fm_826 fm_469 rfl rfl ⟨by decide, by decide, by decide +kernel⟩ ⟨Nat.le_of_ble_eq_true rfl, Nat.le_of_ble_eq_true rfl⟩) (va_recv hK hPc (ci := 14) (q0 := 0) rfl rfl) hFc (fun a9 h9 => Or.inr h9) hG hS hPc hK hDc rfl hl.1 rfl (Nat.le_of_ble_eq_true rfl) dL_law_470 ⟨Nat.le_of_ble_eq_true rfl, Nat.le_of_ble_eq_true rfl⟩ (fun r_3 u_3 H locs hw hz1 hk1 hP1 hS => ?_)
      obtain ⟨hP, hD⟩ := va_join (wr := ([(o2, .inl (k 6, 1, .inr (.inr (.inr (.inl g2)))))] ++ ([(o, .inl (k 5, 1, .inr (.inl u_1)))]))) (w1 := (fz_MO q2 u_2)) hP hD [2] [0, 1] rfl rfl (by decide) (by decide) hk1 hFc hP1 hDc
      have hP : va_P D vwCl ([(o2, .inl (k 6, 1, .inr (.inr (.inr (.inl g2)))))] ++ ([(o, .inl (k 5, 1, .inr (.inl u_1)))] ++ (fz_MO q2 u_2))) H := hP
      have hD : va_D (fun q : Nat => s.heap.size ≤ q) ([(o2, .inl (k 6, 1, .inr (.inr (.inr (.inl g2)))))] ++ ([(o, .inl (k 5, 1, .inr (.inl u_1)))] ++ (fz_MO q2 u_2))) := hD
      obtain rfl : r_3 = u_2 0 := hw
      refine fz_I (y := 0) ht_2 ?_
      refine lv_iload hx hb dL_law_473 (lv_at hl 1 rfl) ?_
      refine lv_icmp_eq (tgt := 480) hx hb dL_law_475 (by decide) (fun c9 => ?_) (fun c9 => absurd (by decide) c9)
      refine lv_iload hx hb dL_law_480 (lv_at hl 1 rfl) ?_
      refine lv_if_ne (tgt := 497) hx hb dL_law_482 (by decide) (fun c9 => absurd (by decide) c9) (fun c9 => ?_)
      refine lv_aload_n hx hb dL_law_485 rfl (lv_at hl 4 rfl) ?_
      refine lv_iconst (v := 0) hx hb dL_law_486 (by decide) ?_
      refine va_lald hx hb hK hP 1 5 rfl rfl (fz_vin (by decide)) dL_law_487 ?_
      refine fz_V (y := .long (((-1) : Int32).toInt64)) (congrArg Value.long hu_1) ?_
      refine lv_iload hx hb dL_law_488 (lv_at hl 0 rfl) ?_
      refine lv_i2l (v := ((-1) : Int32).toInt64) hx hb dL_law_490 rfl ?_
      refine W.lcmp hx hb dL_law_491 ?_
      refine fz_I (y := 0) (by decide) ?_
      refine lv_if_eq (tgt := 497) hx hb dL_law_492 (by decide) (fun c9 => ?_) (fun c9 => absurd (by decide) c9)
      refine lv_goto (tgt := 2457) hx hb dL_law_497 (by decide) ?_
      exact lw_tail hL C0 (Nat.le_of_ble_eq_true rfl) (Nat.le_of_ble_eq_true rfl) hS ls (lv_sub hl [2, 7] rfl)
    · skip
      exact (fq_189 x2 hc_1 hc_2).elim
  · skip
    obtain rfl : x1 = 0 := (fq_190 x1 x2 hc_1)
    obtain rfl : x2 = 11 := (fq_191 x2 hc_1)
    refine lv_istore (lv' := [(6, .int 0), (5, .int 0), (4, .ref o2), (3, .ref o), (2, .ref (q2 0)), (1, .ref (q 31)), (0, .ref b)]) hx hb dL_law_449 hl (by decide) rfl (fun ls hl => ?_)
    refine lv_aload_n hx hb dL_law_451 rfl (lv_at hl 4 rfl) ?_
    refine lv_aload_n hx hb dL_law_452 rfl (lv_at hl 6 rfl) ?_
    refine lv_iload hx hb dL_law_453 (lv_at hl 1 rfl) ?_
    refine lv_iconst (v := 1) hx hb dL_law_455 (by decide) ?_
    refine lv_iadd hx hb dL_law_456 ?_
    refine fz_I (y := 1) (by decide) ?_
    refine va_sld hx hb hX hbl hbA hS (fz_vin (by decide)) dL_law_457 ?_
    refine fz_I (y := 0) ex1.symm ?_
    refine lv_aload_n hx hb dL_law_458 rfl (lv_at hl 6 rfl) ?_
    refine lv_iload hx hb dL_law_459 (lv_at hl 1 rfl) ?_
    refine lv_iconst (v := 2) hx hb dL_law_461 (by decide) ?_
    refine lv_iadd hx hb dL_law_462 ?_
    refine fz_I (y := 2) (by decide) ?_
    refine va_sld hx hb hX hbl hbA hS (fz_vin (by decide)) dL_law_463 ?_
    refine fz_I (y := 11) ex2.symm ?_
    have hPc := hP.sub (ws' := (fz_WM k q2 f2 pa2 v2)) [1, 2, 3, 4, 5, 6, 7, 8] rfl
    have hDc : va_D (va_A (fz_WM k q2 f2 pa2 v2) H.size) (fz_WM k q2 f2 pa2 v2) := (hD.sub (ws' := (fz_WM k q2 f2 pa2 v2)) [1, 2, 3, 4, 5, 6, 7, 8] (by decide) rfl).self
    have hFc := va_free (wc := (fz_WM k q2 f2 pa2 v2)) hD hS hA [1, 2, 3, 4, 5, 6, 7, 8] rfl
    refine fz_cVi (As := [.int 0, .int 11]) (rest := []) S0 (m_p_node l (va_A (fz_WM k q2 f2 pa2 v2) H.size) D k q2 f2 pa2 v2 0 11 n_f_1_0 n_f_1_7 n_f_1_8 n_f_1_9 n_f_1_10 n_f_1_11 n_f_1_12 n_f_1_15 n_f_1_16 n_f_1_3) (fz_cwV (C := RX10) 2 hts9 fm_841 fm_842 fm_843 fm_844 fm_469 rfl rfl ⟨by decide, by decide, by decide +kernel⟩ ⟨Nat.le_of_ble_eq_true rfl, Nat.le_of_ble_eq_true rfl⟩) (va_recv hK hPc (ci := 14) (q0 := 0) rfl rfl) hFc (fun a9 h9 => Or.inr h9) hG hS hPc hK hDc rfl hl.1 rfl (Nat.le_of_ble_eq_true rfl) dL_law_464 ⟨Nat.le_of_ble_eq_true rfl, Nat.le_of_ble_eq_true rfl⟩ (fun r_2 u_2 H locs hw hz1 hk1 hP1 hS => ?_)
    obtain ⟨hP, hD⟩ := va_join (wr := ([(o2, .inl (k 6, 1, .inr (.inr (.inr (.inl g2)))))] ++ ([(o, .inl (k 5, 1, .inr (.inl u_1)))]))) (w1 := (fz_MO q2 u_2)) hP hD [1, 2, 3, 4, 5, 6, 7, 8] [0, 9] rfl rfl (by decide) (by decide) hk1 hFc hP1 (fz_Dsame (hDc.sub (ws' := fz_MO q2 v2) [0] (by decide) rfl) rfl)
    have hP : va_P D vwCl ([(o2, .inl (k 6, 1, .inr (.inr (.inr (.inl g2)))))] ++ ([(o, .inl (k 5, 1, .inr (.inl u_1)))] ++ (fz_MO q2 u_2))) H := hP
    have hD : va_D (fun q : Nat => s.heap.size ≤ q) ([(o2, .inl (k 6, 1, .inr (.inr (.inr (.inl g2)))))] ++ ([(o, .inl (k 5, 1, .inr (.inl u_1)))] ++ (fz_MO q2 u_2))) := hD
    rcases hw with ⟨rfl, ht_2, hc_2⟩ | ⟨rfl, ht_2, hc_2⟩ | ⟨rfl, ht_2, hc_2⟩ | ⟨rfl, ht_2, hc_2⟩ | ⟨rfl, ht_2, hc_2⟩ | ⟨rfl, ht_2, hc_2⟩ | ⟨rfl, ht_2, hc_2⟩ | ⟨rfl, ht_2, hc_2⟩ | ⟨rfl, ht_2, hc_2⟩
    · skip
      exact (fq_112 hc_2).elim
    · skip
      exact (fq_192 hc_2).elim
    · skip
      exact (fq_193 hc_2).elim
    · skip
      exact (fq_194 hc_2).elim
    · skip
      exact (fq_195 hc_2).elim
    · skip
      exact (fq_196 hc_2).elim
    · skip
      exact (fq_197 hc_2).elim
    · skip
      exact (fq_198 hc_2).elim
    · skip
      refine lv_istore (lv' := [(7, .int 0), (6, .int 0), (5, .int 0), (4, .ref o2), (3, .ref o), (2, .ref (q2 0)), (1, .ref (q 31)), (0, .ref b)]) hx hb dL_law_467 hl (by decide) rfl (fun ls hl => ?_)
      refine lv_aload_n hx hb dL_law_469 rfl (lv_at hl 5 rfl) ?_
      have hPc := hP.sub (ws' := (fz_MO q2 u_2)) [2] rfl
      have hDc : va_D (va_A (fz_MO q2 u_2) H.size) (fz_MO q2 u_2) := (hD.sub (ws' := (fz_MO q2 u_2)) [2] (by decide) rfl).self
      have hFc := va_free (wc := (fz_MO q2 u_2)) hD hS hA [2] rfl
      refine fz_cVi (As := []) (rest := []) S0 (m_thrown l (va_A (fz_MO q2 u_2) H.size) D k q2 u_2) (fz_cwV (C := RX10) 0 hts9 fm_823 fm_824 fm_825 fm_826 fm_469 rfl rfl ⟨by decide, by decide, by decide +kernel⟩ ⟨Nat.le_of_ble_eq_true rfl, Nat.le_of_ble_eq_true rfl⟩) (va_recv hK hPc (ci := 14) (q0 := 0) rfl rfl) hFc (fun a9 h9 => Or.inr h9) hG hS hPc hK hDc rfl hl.1 rfl (Nat.le_of_ble_eq_true rfl) dL_law_470 ⟨Nat.le_of_ble_eq_true rfl, Nat.le_of_ble_eq_true rfl⟩ (fun r_3 u_3 H locs hw hz1 hk1 hP1 hS => ?_)
      obtain ⟨hP, hD⟩ := va_join (wr := ([(o2, .inl (k 6, 1, .inr (.inr (.inr (.inl g2)))))] ++ ([(o, .inl (k 5, 1, .inr (.inl u_1)))]))) (w1 := (fz_MO q2 u_2)) hP hD [2] [0, 1] rfl rfl (by decide) (by decide) hk1 hFc hP1 hDc
      have hP : va_P D vwCl ([(o2, .inl (k 6, 1, .inr (.inr (.inr (.inl g2)))))] ++ ([(o, .inl (k 5, 1, .inr (.inl u_1)))] ++ (fz_MO q2 u_2))) H := hP
      have hD : va_D (fun q : Nat => s.heap.size ≤ q) ([(o2, .inl (k 6, 1, .inr (.inr (.inr (.inl g2)))))] ++ ([(o, .inl (k 5, 1, .inr (.inl u_1)))] ++ (fz_MO q2 u_2))) := hD
      obtain rfl : r_3 = u_2 0 := hw
      refine fz_I (y := 0) ht_2 ?_
      refine lv_iload hx hb dL_law_473 (lv_at hl 1 rfl) ?_
      refine lv_icmp_eq (tgt := 480) hx hb dL_law_475 (by decide) (fun c9 => ?_) (fun c9 => absurd (by decide) c9)
      refine lv_iload hx hb dL_law_480 (lv_at hl 1 rfl) ?_
      refine lv_if_ne (tgt := 497) hx hb dL_law_482 (by decide) (fun c9 => absurd (by decide) c9) (fun c9 => ?_)
      refine lv_aload_n hx hb dL_law_485 rfl (lv_at hl 4 rfl) ?_
      refine lv_iconst (v := 0) hx hb dL_law_486 (by decide) ?_
      refine va_lald hx hb hK hP 1 5 rfl rfl (fz_vin (by decide)) dL_law_487 ?_
      refine fz_V (y := .long ((0 : Int32).toInt64)) (congrArg Value.long hu_1) ?_
      refine lv_iload hx hb dL_law_488 (lv_at hl 0 rfl) ?_
      refine lv_i2l (v := (0 : Int32).toInt64) hx hb dL_law_490 rfl ?_
      refine W.lcmp hx hb dL_law_491 ?_
      refine fz_I (y := 0) (by decide) ?_
      refine lv_if_eq (tgt := 497) hx hb dL_law_492 (by decide) (fun c9 => ?_) (fun c9 => absurd (by decide) c9)
      refine lv_goto (tgt := 2457) hx hb dL_law_497 (by decide) ?_
      exact lw_tail hL C0 (Nat.le_of_ble_eq_true rfl) (Nat.le_of_ble_eq_true rfl) hS ls (lv_sub hl [2, 7] rfl)
  · skip
    refine lv_istore (lv' := [(6, .int 1), (5, .int 0), (4, .ref o2), (3, .ref o), (2, .ref (q2 0)), (1, .ref (q 31)), (0, .ref b)]) hx hb dL_law_449 hl (by decide) rfl (fun ls hl => ?_)
    refine lv_aload_n hx hb dL_law_451 rfl (lv_at hl 4 rfl) ?_
    refine lv_aload_n hx hb dL_law_452 rfl (lv_at hl 6 rfl) ?_
    refine lv_iload hx hb dL_law_453 (lv_at hl 1 rfl) ?_
    refine lv_iconst (v := 1) hx hb dL_law_455 (by decide) ?_
    refine lv_iadd hx hb dL_law_456 ?_
    refine fz_I (y := 1) (by decide) ?_
    refine va_sld hx hb hX hbl hbA hS (fz_vin (by decide)) dL_law_457 ?_
    refine fz_I (y := x1) ex1.symm ?_
    refine lv_aload_n hx hb dL_law_458 rfl (lv_at hl 6 rfl) ?_
    refine lv_iload hx hb dL_law_459 (lv_at hl 1 rfl) ?_
    refine lv_iconst (v := 2) hx hb dL_law_461 (by decide) ?_
    refine lv_iadd hx hb dL_law_462 ?_
    refine fz_I (y := 2) (by decide) ?_
    refine va_sld hx hb hX hbl hbA hS (fz_vin (by decide)) dL_law_463 ?_
    refine fz_I (y := x2) ex2.symm ?_
    have hPc := hP.sub (ws' := (fz_WM k q2 f2 pa2 v2)) [1, 2, 3, 4, 5, 6, 7, 8] rfl
    have hDc : va_D (va_A (fz_WM k q2 f2 pa2 v2) H.size) (fz_WM k q2 f2 pa2 v2) := (hD.sub (ws' := (fz_WM k q2 f2 pa2 v2)) [1, 2, 3, 4, 5, 6, 7, 8] (by decide) rfl).self
    have hFc := va_free (wc := (fz_WM k q2 f2 pa2 v2)) hD hS hA [1, 2, 3, 4, 5, 6, 7, 8] rfl
    refine fz_cVi (As := [.int x1, .int x2]) (rest := []) S0 (m_p_node l (va_A (fz_WM k q2 f2 pa2 v2) H.size) D k q2 f2 pa2 v2 x1 x2 n_f_1_0 n_f_1_7 n_f_1_8 n_f_1_9 n_f_1_10 n_f_1_11 n_f_1_12 n_f_1_15 n_f_1_16 n_f_1_3) (fz_cwV (C := RX10) 2 hts9 fm_841 fm_842 fm_843 fm_844 fm_469 rfl rfl ⟨by decide, by decide, by decide +kernel⟩ ⟨Nat.le_of_ble_eq_true rfl, Nat.le_of_ble_eq_true rfl⟩) (va_recv hK hPc (ci := 14) (q0 := 0) rfl rfl) hFc (fun a9 h9 => Or.inr h9) hG hS hPc hK hDc rfl hl.1 rfl (Nat.le_of_ble_eq_true rfl) dL_law_464 ⟨Nat.le_of_ble_eq_true rfl, Nat.le_of_ble_eq_true rfl⟩ (fun r_2 u_2 H locs hw hz1 hk1 hP1 hS => ?_)
    obtain ⟨hP, hD⟩ := va_join (wr := ([(o2, .inl (k 6, 1, .inr (.inr (.inr (.inl g2)))))] ++ ([(o, .inl (k 5, 1, .inr (.inl u_1)))]))) (w1 := (fz_MO q2 u_2)) hP hD [1, 2, 3, 4, 5, 6, 7, 8] [0, 9] rfl rfl (by decide) (by decide) hk1 hFc hP1 (fz_Dsame (hDc.sub (ws' := fz_MO q2 v2) [0] (by decide) rfl) rfl)
    have hP : va_P D vwCl ([(o2, .inl (k 6, 1, .inr (.inr (.inr (.inl g2)))))] ++ ([(o, .inl (k 5, 1, .inr (.inl u_1)))] ++ (fz_MO q2 u_2))) H := hP
    have hD : va_D (fun q : Nat => s.heap.size ≤ q) ([(o2, .inl (k 6, 1, .inr (.inr (.inr (.inl g2)))))] ++ ([(o, .inl (k 5, 1, .inr (.inl u_1)))] ++ (fz_MO q2 u_2))) := hD
    rcases hw with ⟨rfl, ht_2, hc_2⟩ | ⟨rfl, ht_2, hc_2⟩ | ⟨rfl, ht_2, hc_2⟩ | ⟨rfl, ht_2, hc_2⟩ | ⟨rfl, ht_2, hc_2⟩ | ⟨rfl, ht_2, hc_2⟩ | ⟨rfl, ht_2, hc_2⟩ | ⟨rfl, ht_2, hc_2⟩ | ⟨rfl, ht_2, hc_2⟩
    · skip
      refine lv_istore (lv' := [(7, .int 0), (6, .int 1), (5, .int 0), (4, .ref o2), (3, .ref o), (2, .ref (q2 0)), (1, .ref (q 31)), (0, .ref b)]) hx hb dL_law_467 hl (by decide) rfl (fun ls hl => ?_)
      refine lv_aload_n hx hb dL_law_469 rfl (lv_at hl 5 rfl) ?_
      have hPc := hP.sub (ws' := (fz_MO q2 u_2)) [2] rfl
      have hDc : va_D (va_A (fz_MO q2 u_2) H.size) (fz_MO q2 u_2) := (hD.sub (ws' := (fz_MO q2 u_2)) [2] (by decide) rfl).self
      have hFc := va_free (wc := (fz_MO q2 u_2)) hD hS hA [2] rfl
      refine fz_cVi (As := []) (rest := []) S0 (m_thrown l (va_A (fz_MO q2 u_2) H.size) D k q2 u_2) (fz_cwV (C := RX10) 0 hts9 fm_823 fm_824 fm_825 fm_826 fm_469 rfl rfl ⟨by decide, by decide, by decide +kernel⟩ ⟨Nat.le_of_ble_eq_true rfl, Nat.le_of_ble_eq_true rfl⟩) (va_recv hK hPc (ci := 14) (q0 := 0) rfl rfl) hFc (fun a9 h9 => Or.inr h9) hG hS hPc hK hDc rfl hl.1 rfl (Nat.le_of_ble_eq_true rfl) dL_law_470 ⟨Nat.le_of_ble_eq_true rfl, Nat.le_of_ble_eq_true rfl⟩ (fun r_3 u_3 H locs hw hz1 hk1 hP1 hS => ?_)
      obtain ⟨hP, hD⟩ := va_join (wr := ([(o2, .inl (k 6, 1, .inr (.inr (.inr (.inl g2)))))] ++ ([(o, .inl (k 5, 1, .inr (.inl u_1)))]))) (w1 := (fz_MO q2 u_2)) hP hD [2] [0, 1] rfl rfl (by decide) (by decide) hk1 hFc hP1 hDc
      have hP : va_P D vwCl ([(o2, .inl (k 6, 1, .inr (.inr (.inr (.inl g2)))))] ++ ([(o, .inl (k 5, 1, .inr (.inl u_1)))] ++ (fz_MO q2 u_2))) H := hP
      have hD : va_D (fun q : Nat => s.heap.size ≤ q) ([(o2, .inl (k 6, 1, .inr (.inr (.inr (.inl g2)))))] ++ ([(o, .inl (k 5, 1, .inr (.inl u_1)))] ++ (fz_MO q2 u_2))) := hD
      obtain rfl : r_3 = u_2 0 := hw
      refine fz_I (y := 1) ht_2 ?_
      refine lv_iload hx hb dL_law_473 (lv_at hl 1 rfl) ?_
      refine lv_icmp_eq (tgt := 480) hx hb dL_law_475 (by decide) (fun c9 => ?_) (fun c9 => absurd (by decide) c9)
      refine lv_iload hx hb dL_law_480 (lv_at hl 1 rfl) ?_
      refine lv_if_ne (tgt := 497) hx hb dL_law_482 (by decide) (fun c9 => ?_) (fun c9 => absurd c9 (by decide))
      refine lv_goto (tgt := 2457) hx hb dL_law_497 (by decide) ?_
      exact lw_tail hL C0 (Nat.le_of_ble_eq_true rfl) (Nat.le_of_ble_eq_true rfl) hS ls (lv_sub hl [2, 7] rfl)
    · skip
      exact (fq_199 x1 x2 hc_1 hc_2).elim
    · skip
      exact (fq_200 x1 x2 hc_1 hc_2).elim
    · skip
      exact (fq_201 x1 x2 hc_1 hc_2).elim
    · skip
      exact (fq_202 x1 x2 hc_1 hc_2).elim
    · skip
      exact (fq_203 x1 x2 hc_1 hc_2).elim
    · skip
      exact (fq_204 x1 x2 hc_1 hc_2).elim
    · skip
      exact (fq_205 x1 x2 hc_1 hc_2).elim
    · skip
      exact (fq_206 x1 x2 hc_1 hc_2).elim
  · skip
    obtain rfl : x1 = 0 := (fq_207 x1 x2 hc_1)
    refine lv_istore (lv' := [(6, .int 2), (5, .int 0), (4, .ref o2), (3, .ref o), (2, .ref (q2 0)), (1, .ref (q 31)), (0, .ref b)]) hx hb dL_law_449 hl (by decide) rfl (fun ls hl => ?_)
    refine lv_aload_n hx hb dL_law_451 rfl (lv_at hl 4 rfl) ?_
    refine lv_aload_n hx hb dL_law_452 rfl (lv_at hl 6 rfl) ?_
    refine lv_iload hx hb dL_law_453 (lv_at hl 1 rfl) ?_
    refine lv_iconst (v := 1) hx hb dL_law_455 (by decide) ?_
    refine lv_iadd hx hb dL_law_456 ?_
    refine fz_I (y := 1) (by decide) ?_
    refine va_sld hx hb hX hbl hbA hS (fz_vin (by decide)) dL_law_457 ?_
    refine fz_I (y := 0) ex1.symm ?_
    refine lv_aload_n hx hb dL_law_458 rfl (lv_at hl 6 rfl) ?_
    refine lv_iload hx hb dL_law_459 (lv_at hl 1 rfl) ?_
    refine lv_iconst (v := 2) hx hb dL_law_461 (by decide) ?_
    refine lv_iadd hx hb dL_law_462 ?_
    refine fz_I (y := 2) (by decide) ?_
    refine va_sld hx hb hX hbl hbA hS (fz_vin (by decide)) dL_law_463 ?_
    refine fz_I (y := x2) ex2.symm ?_
    have hPc := hP.sub (ws' := (fz_WM k q2 f2 pa2 v2)) [1, 2, 3, 4, 5, 6, 7, 8] rfl
    have hDc : va_D (va_A (fz_WM k q2 f2 pa2 v2) H.size) (fz_WM k q2 f2 pa2 v2) := (hD.sub (ws' := (fz_WM k q2 f2 pa2 v2)) [1, 2, 3, 4, 5, 6, 7, 8] (by decide) rfl).self
    have hFc := va_free (wc := (fz_WM k q2 f2 pa2 v2)) hD hS hA [1, 2, 3, 4, 5, 6, 7, 8] rfl
    refine fz_cVi (As := [.int 0, .int x2]) (rest := []) S0 (m_p_node l (va_A (fz_WM k q2 f2 pa2 v2) H.size) D k q2 f2 pa2 v2 0 x2 n_f_1_0 n_f_1_7 n_f_1_8 n_f_1_9 n_f_1_10 n_f_1_11 n_f_1_12 n_f_1_15 n_f_1_16 n_f_1_3) (fz_cwV (C := RX10) 2 hts9 fm_841 fm_842 fm_843 fm_844 fm_469 rfl rfl ⟨by decide, by decide, by decide +kernel⟩ ⟨Nat.le_of_ble_eq_true rfl, Nat.le_of_ble_eq_true rfl⟩) (va_recv hK hPc (ci := 14) (q0 := 0) rfl rfl) hFc (fun a9 h9 => Or.inr h9) hG hS hPc hK hDc rfl hl.1 rfl (Nat.le_of_ble_eq_true rfl) dL_law_464 ⟨Nat.le_of_ble_eq_true rfl, Nat.le_of_ble_eq_true rfl⟩ (fun r_2 u_2 H locs hw hz1 hk1 hP1 hS => ?_)
    obtain ⟨hP, hD⟩ := va_join (wr := ([(o2, .inl (k 6, 1, .inr (.inr (.inr (.inl g2)))))] ++ ([(o, .inl (k 5, 1, .inr (.inl u_1)))]))) (w1 := (fz_MO q2 u_2)) hP hD [1, 2, 3, 4, 5, 6, 7, 8] [0, 9] rfl rfl (by decide) (by decide) hk1 hFc hP1 (fz_Dsame (hDc.sub (ws' := fz_MO q2 v2) [0] (by decide) rfl) rfl)
    have hP : va_P D vwCl ([(o2, .inl (k 6, 1, .inr (.inr (.inr (.inl g2)))))] ++ ([(o, .inl (k 5, 1, .inr (.inl u_1)))] ++ (fz_MO q2 u_2))) H := hP
    have hD : va_D (fun q : Nat => s.heap.size ≤ q) ([(o2, .inl (k 6, 1, .inr (.inr (.inr (.inl g2)))))] ++ ([(o, .inl (k 5, 1, .inr (.inl u_1)))] ++ (fz_MO q2 u_2))) := hD
    rcases hw with ⟨rfl, ht_2, hc_2⟩ | ⟨rfl, ht_2, hc_2⟩ | ⟨rfl, ht_2, hc_2⟩ | ⟨rfl, ht_2, hc_2⟩ | ⟨rfl, ht_2, hc_2⟩ | ⟨rfl, ht_2, hc_2⟩ | ⟨rfl, ht_2, hc_2⟩ | ⟨rfl, ht_2, hc_2⟩ | ⟨rfl, ht_2, hc_2⟩
    · skip
      exact (fq_112 hc_2).elim
    · skip
      refine lv_istore (lv' := [(7, .int 0), (6, .int 2), (5, .int 0), (4, .ref o2), (3, .ref o), (2, .ref (q2 0)), (1, .ref (q 31)), (0, .ref b)]) hx hb dL_law_467 hl (by decide) rfl (fun ls hl => ?_)
      refine lv_aload_n hx hb dL_law_469 rfl (lv_at hl 5 rfl) ?_
      have hPc := hP.sub (ws' := (fz_MO q2 u_2)) [2] rfl
      have hDc : va_D (va_A (fz_MO q2 u_2) H.size) (fz_MO q2 u_2) := (hD.sub (ws' := (fz_MO q2 u_2)) [2] (by decide) rfl).self
      have hFc := va_free (wc := (fz_MO q2 u_2)) hD hS hA [2] rfl
      refine fz_cVi (As := []) (rest := []) S0 (m_thrown l (va_A (fz_MO q2 u_2) H.size) D k q2 u_2) (fz_cwV (C := RX10) 0 hts9 fm_823 fm_824 fm_825 fm_826 fm_469 rfl rfl ⟨by decide, by decide, by decide +kernel⟩ ⟨Nat.le_of_ble_eq_true rfl, Nat.le_of_ble_eq_true rfl⟩) (va_recv hK hPc (ci := 14) (q0 := 0) rfl rfl) hFc (fun a9 h9 => Or.inr h9) hG hS hPc hK hDc rfl hl.1 rfl (Nat.le_of_ble_eq_true rfl) dL_law_470 ⟨Nat.le_of_ble_eq_true rfl, Nat.le_of_ble_eq_true rfl⟩ (fun r_3 u_3 H locs hw hz1 hk1 hP1 hS => ?_)
      obtain ⟨hP, hD⟩ := va_join (wr := ([(o2, .inl (k 6, 1, .inr (.inr (.inr (.inl g2)))))] ++ ([(o, .inl (k 5, 1, .inr (.inl u_1)))]))) (w1 := (fz_MO q2 u_2)) hP hD [2] [0, 1] rfl rfl (by decide) (by decide) hk1 hFc hP1 hDc
      have hP : va_P D vwCl ([(o2, .inl (k 6, 1, .inr (.inr (.inr (.inl g2)))))] ++ ([(o, .inl (k 5, 1, .inr (.inl u_1)))] ++ (fz_MO q2 u_2))) H := hP
      have hD : va_D (fun q : Nat => s.heap.size ≤ q) ([(o2, .inl (k 6, 1, .inr (.inr (.inr (.inl g2)))))] ++ ([(o, .inl (k 5, 1, .inr (.inl u_1)))] ++ (fz_MO q2 u_2))) := hD
      obtain rfl : r_3 = u_2 0 := hw
      refine fz_I (y := 2) ht_2 ?_
      refine lv_iload hx hb dL_law_473 (lv_at hl 1 rfl) ?_
      refine lv_icmp_eq (tgt := 480) hx hb dL_law_475 (by decide) (fun c9 => ?_) (fun c9 => absurd (by decide) c9)
      refine lv_iload hx hb dL_law_480 (lv_at hl 1 rfl) ?_
      refine lv_if_ne (tgt := 497) hx hb dL_law_482 (by decide) (fun c9 => ?_) (fun c9 => absurd c9 (by decide))
      refine lv_goto (tgt := 2457) hx hb dL_law_497 (by decide) ?_
      exact lw_tail hL C0 (Nat.le_of_ble_eq_true rfl) (Nat.le_of_ble_eq_true rfl) hS ls (lv_sub hl [2, 7] rfl)
    · skip
      exact (fq_208 x2 hc_1 hc_2).elim
    · skip
      exact (fq_209 x2 hc_1 hc_2).elim
    · skip
      exact (fq_210 x2 hc_1 hc_2).elim
    · skip
      exact (fq_211 x2 hc_1 hc_2).elim
    · skip
      exact (fq_212 x2 hc_1 hc_2).elim
    · skip
      exact (fq_213 x2 hc_1 hc_2).elim
    · skip
      exact (fq_214 x2 hc_1 hc_2).elim

set_option maxHeartbeats 8000000 in
set_option maxRecDepth 100000 in
theorem lw_case4 {p : Program} {l : Launch} {e : Env} {s : State} {m : MethodId} {below : List Frame} {meth : Method} {c : Code} {D : va_G} {b L : Nat} {xs : Nat → Int32} (hl0 : l.stackTraces = false) (hL : L = 6) (C0 : lw_At p s m meth c b L xs) (hG : fz_GS (fun q : Nat => s.heap.size ≤ q) s) (k : Nat → ClassId) (hK : va_K D vwCl (fz_tys k) s) (q q2 : Nat → Nat) (f f2 : Nat → Nat → Int32) (pa pa2 : Nat → Option Nat) (v v2 : Nat → Int32) (o o2 : Nat) (g : Nat → Int64) (g2 : Nat → UInt64) (hF : fz_LF q2 f pa v f2 pa2 v2) (H : Heap) (locs : List Loc) (hP : va_P D vwCl (fz_WC k q f pa v ++ ([(o, .inl (k 5, 1, .inr (.inl g)))] ++ ([(o2, .inl (k 6, 1, .inr (.inr (.inr (.inl g2)))))] ++ (fz_WM k q2 f2 pa2 v2)))) H) (hD : va_D (fun q : Nat => s.heap.size ≤ q) (fz_WC k q f pa v ++ ([(o, .inl (k 5, 1, .inr (.inl g)))] ++ ([(o2, .inl (k 6, 1, .inr (.inr (.inr (.inl g2)))))] ++ (fz_WM k q2 f2 pa2 v2))))) (hS : va_S (fun q : Nat => s.heap.size ≤ q) s.heap H locs) (ls : Array Slot) (hl : lv_has ls 9 [(5, .int 0), (4, .ref o2), (3, .ref o), (2, .ref (q2 0)), (1, .ref (q 31)), (0, .ref b)]) :
    W p l e room_1 s m #[Value.ref b] below meth c H locs 2000 400000 (lw_Z below #[Value.ref b] s) (F0 m 500 ls []) := by
  obtain ⟨g_v_0, g_v_1, g_v_2, g_v_3, g_v_4, g_v_5, g_v_6, g_v_7, g_v_8, g_v_9, g_v_10, g_v_11, g_v_12, g_v_13, g_v_14, g_v_15, g_v_17, g_f_2_0, g_f_4_0, g_f_5_0, g_f_6_0, g_f_7_0, g_f_8_0, g_f_9_0, g_f_11_0, g_f_18_0, g_f_19_0, g_pa_0, g_pa_1, g_pa_8, n_v_0, n_v_5, n_v_6, n_v_7, n_v_8, n_v_9, n_v_10, n_v_11, n_v_12, n_v_13, n_v_15, n_v_16, n_v_17, n_v_18, n_v_19, n_v_21, n_f_1_0, n_f_1_1, n_f_1_2, n_f_1_3, n_f_1_4, n_f_1_5, n_f_1_6, n_f_1_7, n_f_1_8, n_f_1_9, n_f_1_10, n_f_1_11, n_f_1_12, n_f_1_13, n_f_1_15, n_f_1_16, n_f_1_17, n_pb_0⟩ := hF
  obtain ⟨hx, hb, hr, hml, hown, hts, hX, hbl, hlocks, hgv⟩ := id C0
  subst hL
  have hL : (6 : Nat) = 6 := rfl
  have hA : ∀ q : Nat, s.heap.size ≤ q → (fun q : Nat => s.heap.size ≤ q) q := fun _ h => h
  have hbA : ¬ (fun q : Nat => s.heap.size ≤ q) b := Nat.not_le.mpr hbl
  have hts9 := fz_hts9 hts
  have hown : s.vm.findClass RL = some m.cls := hown
  have S0 : CallFix p m c code 9 s #[Value.ref b] (Cond.initialized RL :: fz_WA) RL := ⟨hx, hb, hml, hown, hts9⟩
  obtain ⟨x1, ex1⟩ : ∃ z, z = xs 1 := ⟨_, rfl⟩
  obtain ⟨x2, ex2⟩ : ∃ z, z = xs 2 := ⟨_, rfl⟩
  obtain ⟨x3, ex3⟩ : ∃ z, z = xs 3 := ⟨_, rfl⟩
  obtain ⟨x4, ex4⟩ : ∃ z, z = xs 4 := ⟨_, rfl⟩
  obtain ⟨x5, ex5⟩ : ∃ z, z = xs 5 := ⟨_, rfl⟩
  refine lv_aload_n hx hb dL_law_500 rfl (lv_at hl 4 rfl) ?_
  refine lv_aload_n hx hb dL_law_501 rfl (lv_at hl 5 rfl) ?_
  refine lv_iload hx hb dL_law_502 (lv_at hl 0 rfl) ?_
  refine lv_iconst (v := 1) hx hb dL_law_504 (by decide) ?_
  refine lv_iadd hx hb dL_law_505 ?_
  refine fz_I (y := 1) (by decide) ?_
  refine va_sld hx hb hX hbl hbA hS (fz_vin (by decide)) dL_law_506 ?_
  refine fz_I (y := x1) ex1.symm ?_
  refine lv_aload_n hx hb dL_law_507 rfl (lv_at hl 5 rfl) ?_
  refine lv_iload hx hb dL_law_508 (lv_at hl 0 rfl) ?_
  refine lv_iconst (v := 2) hx hb dL_law_510 (by decide) ?_
  refine lv_iadd hx hb dL_law_511 ?_
  refine fz_I (y := 2) (by decide) ?_
  refine va_sld hx hb hX hbl hbA hS (fz_vin (by decide)) dL_law_512 ?_
  refine fz_I (y := x2) ex2.symm ?_
  refine lv_aload_n hx hb dL_law_513 rfl (lv_at hl 2 rfl) ?_
  have hPc := hP.sub (ws' := (fz_WC k q f pa v ++ ([(o, .inl (k 5, 1, .inr (.inl g)))]))) [0, 1, 2, 3, 4, 5, 6, 7, 8, 9, 10, 11, 12, 13, 14, 15, 16, 17, 18, 19, 20, 21, 22, 23, 24, 25, 26, 27, 28, 29, 30, 31, 32, 33, 34, 35, 36, 37, 38] rfl
  have hDc : va_D (va_A (fz_WC k q f pa v ++ ([(o, .inl (k 5, 1, .inr (.inl g)))])) H.size) (fz_WC k q f pa v ++ ([(o, .inl (k 5, 1, .inr (.inl g)))])) := (hD.sub (ws' := (fz_WC k q f pa v ++ ([(o, .inl (k 5, 1, .inr (.inl g)))]))) [0, 1, 2, 3, 4, 5, 6, 7, 8, 9, 10, 11, 12, 13, 14, 15, 16, 17, 18, 19, 20, 21, 22, 23, 24, 25, 26, 27, 28, 29, 30, 31, 32, 33, 34, 35, 36, 37, 38] (by decide) rfl).self
  have hFc := va_free (wc := (fz_WC k q f pa v ++ ([(o, .inl (k 5, 1, .inr (.inl g)))]))) hD hS hA [0, 1, 2, 3, 4, 5, 6, 7, 8, 9, 10, 11, 12, 13, 14, 15, 16, 17, 18, 19, 20, 21, 22, 23, 24, 25, 26, 27, 28, 29, 30, 31, 32, 33, 34, 35, 36, 37, 38] rfl
  refine fz_hSi (As := [.ref (q 31), .int x1, .int x2, .ref o]) (rest := []) S0 (h_child l hl0 (va_A (fz_WC k q f pa v ++ ([(o, .inl (k 5, 1, .inr (.inl g)))])) H.size) D k q f pa v o g x1 x2 g_v_1 g_f_4_0 g_v_2 g_f_2_0 g_f_5_0) (vx_cwSW 4 hts9 (fz_gSW fm_672 fm_845 fm_846 fm_816) rfl rfl rfl ⟨by decide, by decide, by decide +kernel⟩ ⟨Nat.le_of_ble_eq_true rfl, Nat.le_of_ble_eq_true rfl⟩) hFc (fun a9 h9 => Or.inr h9) hG hS hPc hK hDc rfl hl.1 rfl (Nat.le_of_ble_eq_true rfl) dL_law_514 ⟨Nat.le_of_ble_eq_true rfl, Nat.le_of_ble_eq_true rfl⟩ (fun r_1 u_1 H locs hw hz1 hk1 hP1 hS => ?_)
  obtain ⟨hP, hD⟩ := va_join (wr := ([(o2, .inl (k 6, 1, .inr (.inr (.inr (.inl g2)))))] ++ (fz_WM k q2 f2 pa2 v2))) (w1 := ([(o, .inl (k 5, 1, .inr (.inl u_1)))])) hP hD [0, 1, 2, 3, 4, 5, 6, 7, 8, 9, 10, 11, 12, 13, 14, 15, 16, 17, 18, 19, 20, 21, 22, 23, 24, 25, 26, 27, 28, 29, 30, 31, 32, 33, 34, 35, 36, 37, 38] [39, 40, 41, 42, 43, 44, 45, 46, 47] rfl rfl (by decide) (by decide) hk1 hFc hP1 (fz_Dsame (hDc.sub (ws' := [(o, .inl (k 5, 1, .inr (.inl g)))]) [38] (by decide) rfl) rfl)
  have hP : va_P D vwCl ([(o2, .inl (k 6, 1, .inr (.inr (.inr (.inl g2)))))] ++ (fz_WM k q2 f2 pa2 v2 ++ ([(o, .inl (k 5, 1, .inr (.inl u_1)))]))) H := hP
  have hD : va_D (fun q : Nat => s.heap.size ≤ q) ([(o2, .inl (k 6, 1, .inr (.inr (.inr (.inl g2)))))] ++ (fz_WM k q2 f2 pa2 v2 ++ ([(o, .inl (k 5, 1, .inr (.inl u_1)))]))) := hD
  rcases hw with ⟨rfl, hc_1⟩
  · skip
    refine lv_istore (lv' := [(6, .int 1), (5, .int 0), (4, .ref o2), (3, .ref o), (2, .ref (q2 0)), (1, .ref (q 31)), (0, .ref b)]) hx hb dL_law_517 hl (by decide) rfl (fun ls hl => ?_)
    refine lv_aload_n hx hb dL_law_519 rfl (lv_at hl 4 rfl) ?_
    refine lv_aload_n hx hb dL_law_520 rfl (lv_at hl 6 rfl) ?_
    refine lv_iload hx hb dL_law_521 (lv_at hl 1 rfl) ?_
    refine lv_iconst (v := 1) hx hb dL_law_523 (by decide) ?_
    refine lv_iadd hx hb dL_law_524 ?_
    refine fz_I (y := 1) (by decide) ?_
    refine va_sld hx hb hX hbl hbA hS (fz_vin (by decide)) dL_law_525 ?_
    refine fz_I (y := x1) ex1.symm ?_
    refine lv_aload_n hx hb dL_law_526 rfl (lv_at hl 6 rfl) ?_
    refine lv_iload hx hb dL_law_527 (lv_at hl 1 rfl) ?_
    refine lv_iconst (v := 2) hx hb dL_law_529 (by decide) ?_
    refine lv_iadd hx hb dL_law_530 ?_
    refine fz_I (y := 2) (by decide) ?_
    refine va_sld hx hb hX hbl hbA hS (fz_vin (by decide)) dL_law_531 ?_
    refine fz_I (y := x2) ex2.symm ?_
    have hPc := hP.sub (ws' := (fz_WM k q2 f2 pa2 v2)) [1, 2, 3, 4, 5, 6, 7, 8] rfl
    have hDc : va_D (va_A (fz_WM k q2 f2 pa2 v2) H.size) (fz_WM k q2 f2 pa2 v2) := (hD.sub (ws' := (fz_WM k q2 f2 pa2 v2)) [1, 2, 3, 4, 5, 6, 7, 8] (by decide) rfl).self
    have hFc := va_free (wc := (fz_WM k q2 f2 pa2 v2)) hD hS hA [1, 2, 3, 4, 5, 6, 7, 8] rfl
    refine fz_cVi (As := [.int x1, .int x2]) (rest := []) S0 (m_p_child l (va_A (fz_WM k q2 f2 pa2 v2) H.size) D k q2 f2 pa2 v2 x1 x2 n_f_1_0 n_f_1_7) (fz_cwV (C := RX10) 2 hts9 fm_847 fm_848 fm_849 fm_850 fm_469 rfl rfl ⟨by decide, by decide, by decide +kernel⟩ ⟨Nat.le_of_ble_eq_true rfl, Nat.le_of_ble_eq_true rfl⟩) (va_recv hK hPc (ci := 14) (q0 := 0) rfl rfl) hFc (fun a9 h9 => Or.inr h9) hG hS hPc hK hDc rfl hl.1 rfl (Nat.le_of_ble_eq_true rfl) dL_law_532 ⟨Nat.le_of_ble_eq_true rfl, Nat.le_of_ble_eq_true rfl⟩ (fun r_2 u_2 H locs hw hz1 hk1 hP1 hS => ?_)
    obtain ⟨hP, hD⟩ := va_join (wr := ([(o2, .inl (k 6, 1, .inr (.inr (.inr (.inl g2)))))] ++ ([(o, .inl (k 5, 1, .inr (.inl u_1)))]))) (w1 := (fz_MO q2 u_2)) hP hD [1, 2, 3, 4, 5, 6, 7, 8] [0, 9] rfl rfl (by decide) (by decide) hk1 hFc hP1 (fz_Dsame (hDc.sub (ws' := fz_MO q2 v2) [0] (by decide) rfl) rfl)
    have hP : va_P D vwCl ([(o2, .inl (k 6, 1, .inr (.inr (.inr (.inl g2)))))] ++ ([(o, .inl (k 5, 1, .inr (.inl u_1)))] ++ (fz_MO q2 u_2))) H := hP
    have hD : va_D (fun q : Nat => s.heap.size ≤ q) ([(o2, .inl (k 6, 1, .inr (.inr (.inr (.inl g2)))))] ++ ([(o, .inl (k 5, 1, .inr (.inl u_1)))] ++ (fz_MO q2 u_2))) := hD
    rcases hw with ⟨rfl, ht_2, hc_2⟩
    · skip
      refine lv_istore (lv' := [(7, .int 0), (6, .int 1), (5, .int 0), (4, .ref o2), (3, .ref o), (2, .ref (q2 0)), (1, .ref (q 31)), (0, .ref b)]) hx hb dL_law_535 hl (by decide) rfl (fun ls hl => ?_)
      refine lv_aload_n hx hb dL_law_537 rfl (lv_at hl 5 rfl) ?_
      have hPc := hP.sub (ws' := (fz_MO q2 u_2)) [2] rfl
      have hDc : va_D (va_A (fz_MO q2 u_2) H.size) (fz_MO q2 u_2) := (hD.sub (ws' := (fz_MO q2 u_2)) [2] (by decide) rfl).self
      have hFc := va_free (wc := (fz_MO q2 u_2)) hD hS hA [2] rfl
      refine fz_cVi (As := []) (rest := []) S0 (m_thrown l (va_A (fz_MO q2 u_2) H.size) D k q2 u_2) (fz_cwV (C := RX10) 0 hts9 fm_823 fm_824 fm_825 fm_826 fm_469 rfl rfl ⟨by decide, by decide, by decide +kernel⟩ ⟨Nat.le_of_ble_eq_true rfl, Nat.le_of_ble_eq_true rfl⟩) (va_recv hK hPc (ci := 14) (q0 := 0) rfl rfl) hFc (fun a9 h9 => Or.inr h9) hG hS hPc hK hDc rfl hl.1 rfl (Nat.le_of_ble_eq_true rfl) dL_law_538 ⟨Nat.le_of_ble_eq_true rfl, Nat.le_of_ble_eq_true rfl⟩ (fun r_3 u_3 H locs hw hz1 hk1 hP1 hS => ?_)
      obtain ⟨hP, hD⟩ := va_join (wr := ([(o2, .inl (k 6, 1, .inr (.inr (.inr (.inl g2)))))] ++ ([(o, .inl (k 5, 1, .inr (.inl u_1)))]))) (w1 := (fz_MO q2 u_2)) hP hD [2] [0, 1] rfl rfl (by decide) (by decide) hk1 hFc hP1 hDc
      have hP : va_P D vwCl ([(o2, .inl (k 6, 1, .inr (.inr (.inr (.inl g2)))))] ++ ([(o, .inl (k 5, 1, .inr (.inl u_1)))] ++ (fz_MO q2 u_2))) H := hP
      have hD : va_D (fun q : Nat => s.heap.size ≤ q) ([(o2, .inl (k 6, 1, .inr (.inr (.inr (.inl g2)))))] ++ ([(o, .inl (k 5, 1, .inr (.inl u_1)))] ++ (fz_MO q2 u_2))) := hD
      obtain rfl : r_3 = u_2 0 := hw
      refine fz_I (y := 1) ht_2 ?_
      refine lv_iload hx hb dL_law_541 (lv_at hl 1 rfl) ?_
      refine lv_icmp_eq (tgt := 548) hx hb dL_law_543 (by decide) (fun c9 => ?_) (fun c9 => absurd (by decide) c9)
      refine lv_iload hx hb dL_law_548 (lv_at hl 1 rfl) ?_
      refine lv_if_ne (tgt := 565) hx hb dL_law_550 (by decide) (fun c9 => ?_) (fun c9 => absurd c9 (by decide))
      refine lv_goto (tgt := 2457) hx hb dL_law_565 (by decide) ?_
      exact lw_tail hL C0 (Nat.le_of_ble_eq_true rfl) (Nat.le_of_ble_eq_true rfl) hS ls (lv_sub hl [2, 7] rfl)

set_option maxHeartbeats 8000000 in
set_option maxRecDepth 100000 in
theorem lw_case5 {p : Program} {l : Launch} {e : Env} {s : State} {m : MethodId} {below : List Frame} {meth : Method} {c : Code} {D : va_G} {b L : Nat} {xs : Nat → Int32} (hl0 : l.stackTraces = false) (hL : L = 6) (C0 : lw_At p s m meth c b L xs) (hG : fz_GS (fun q : Nat => s.heap.size ≤ q) s) (k : Nat → ClassId) (hK : va_K D vwCl (fz_tys k) s) (q q2 : Nat → Nat) (f f2 : Nat → Nat → Int32) (pa pa2 : Nat → Option Nat) (v v2 : Nat → Int32) (o o2 : Nat) (g : Nat → Int64) (g2 : Nat → UInt64) (hF : fz_LF q2 f pa v f2 pa2 v2) (H : Heap) (locs : List Loc) (hP : va_P D vwCl (fz_WC k q f pa v ++ ([(o, .inl (k 5, 1, .inr (.inl g)))] ++ ([(o2, .inl (k 6, 1, .inr (.inr (.inr (.inl g2)))))] ++ (fz_WM k q2 f2 pa2 v2)))) H) (hD : va_D (fun q : Nat => s.heap.size ≤ q) (fz_WC k q f pa v ++ ([(o, .inl (k 5, 1, .inr (.inl g)))] ++ ([(o2, .inl (k 6, 1, .inr (.inr (.inr (.inl g2)))))] ++ (fz_WM k q2 f2 pa2 v2))))) (hS : va_S (fun q : Nat => s.heap.size ≤ q) s.heap H locs) (ls : Array Slot) (hl : lv_has ls 9 [(5, .int 0), (4, .ref o2), (3, .ref o), (2, .ref (q2 0)), (1, .ref (q 31)), (0, .ref b)]) :
    W p l e room_1 s m #[Value.ref b] below meth c H locs 2000 400000 (lw_Z below #[Value.ref b] s) (F0 m 568 ls []) := by
  obtain ⟨g_v_0, g_v_1, g_v_2, g_v_3, g_v_4, g_v_5, g_v_6, g_v_7, g_v_8, g_v_9, g_v_10, g_v_11, g_v_12, g_v_13, g_v_14, g_v_15, g_v_17, g_f_2_0, g_f_4_0, g_f_5_0, g_f_6_0, g_f_7_0, g_f_8_0, g_f_9_0, g_f_11_0, g_f_18_0, g_f_19_0, g_pa_0, g_pa_1, g_pa_8, n_v_0, n_v_5, n_v_6, n_v_7, n_v_8, n_v_9, n_v_10, n_v_11, n_v_12, n_v_13, n_v_15, n_v_16, n_v_17, n_v_18, n_v_19, n_v_21, n_f_1_0, n_f_1_1, n_f_1_2, n_f_1_3, n_f_1_4, n_f_1_5, n_f_1_6, n_f_1_7, n_f_1_8, n_f_1_9, n_f_1_10, n_f_1_11, n_f_1_12, n_f_1_13, n_f_1_15, n_f_1_16, n_f_1_17, n_pb_0⟩ := hF
  obtain ⟨hx, hb, hr, hml, hown, hts, hX, hbl, hlocks, hgv⟩ := id C0
  subst hL
  have hL : (6 : Nat) = 6 := rfl
  have hA : ∀ q : Nat, s.heap.size ≤ q → (fun q : Nat => s.heap.size ≤ q) q := fun _ h => h
  have hbA : ¬ (fun q : Nat => s.heap.size ≤ q) b := Nat.not_le.mpr hbl
  have hts9 := fz_hts9 hts
  have hown : s.vm.findClass RL = some m.cls := hown
  have S0 : CallFix p m c code 9 s #[Value.ref b] (Cond.initialized RL :: fz_WA) RL := ⟨hx, hb, hml, hown, hts9⟩
  obtain ⟨x1, ex1⟩ : ∃ z, z = xs 1 := ⟨_, rfl⟩
  obtain ⟨x2, ex2⟩ : ∃ z, z = xs 2 := ⟨_, rfl⟩
  obtain ⟨x3, ex3⟩ : ∃ z, z = xs 3 := ⟨_, rfl⟩
  obtain ⟨x4, ex4⟩ : ∃ z, z = xs 4 := ⟨_, rfl⟩
  obtain ⟨x5, ex5⟩ : ∃ z, z = xs 5 := ⟨_, rfl⟩
  refine lv_aload_n hx hb dL_law_568 rfl (lv_at hl 4 rfl) ?_
  refine lv_aload_n hx hb dL_law_569 rfl (lv_at hl 5 rfl) ?_
  refine lv_iload hx hb dL_law_570 (lv_at hl 0 rfl) ?_
  refine lv_iconst (v := 1) hx hb dL_law_572 (by decide) ?_
  refine lv_iadd hx hb dL_law_573 ?_
  refine fz_I (y := 1) (by decide) ?_
  refine va_sld hx hb hX hbl hbA hS (fz_vin (by decide)) dL_law_574 ?_
  refine fz_I (y := x1) ex1.symm ?_
  refine lv_aload_n hx hb dL_law_575 rfl (lv_at hl 5 rfl) ?_
  refine lv_iload hx hb dL_law_576 (lv_at hl 0 rfl) ?_
  refine lv_iconst (v := 2) hx hb dL_law_578 (by decide) ?_
  refine lv_iadd hx hb dL_law_579 ?_
  refine fz_I (y := 2) (by decide) ?_
  refine va_sld hx hb hX hbl hbA hS (fz_vin (by decide)) dL_law_580 ?_
  refine fz_I (y := x2) ex2.symm ?_
  refine lv_aload_n hx hb dL_law_581 rfl (lv_at hl 5 rfl) ?_
  refine lv_iload hx hb dL_law_582 (lv_at hl 0 rfl) ?_
  refine lv_iconst (v := 3) hx hb dL_law_584 (by decide) ?_
  refine lv_iadd hx hb dL_law_585 ?_
  refine fz_I (y := 3) (by decide) ?_
  refine va_sld hx hb hX hbl hbA hS (fz_vin (by decide)) dL_law_586 ?_
  refine fz_I (y := x3) ex3.symm ?_
  refine lv_aload_n hx hb dL_law_587 rfl (lv_at hl 2 rfl) ?_
  have hPc := hP.sub (ws' := (fz_WC k q f pa v ++ ([(o, .inl (k 5, 1, .inr (.inl g)))]))) [0, 1, 2, 3, 4, 5, 6, 7, 8, 9, 10, 11, 12, 13, 14, 15, 16, 17, 18, 19, 20, 21, 22, 23, 24, 25, 26, 27, 28, 29, 30, 31, 32, 33, 34, 35, 36, 37, 38] rfl
  have hDc : va_D (va_A (fz_WC k q f pa v ++ ([(o, .inl (k 5, 1, .inr (.inl g)))])) H.size) (fz_WC k q f pa v ++ ([(o, .inl (k 5, 1, .inr (.inl g)))])) := (hD.sub (ws' := (fz_WC k q f pa v ++ ([(o, .inl (k 5, 1, .inr (.inl g)))]))) [0, 1, 2, 3, 4, 5, 6, 7, 8, 9, 10, 11, 12, 13, 14, 15, 16, 17, 18, 19, 20, 21, 22, 23, 24, 25, 26, 27, 28, 29, 30, 31, 32, 33, 34, 35, 36, 37, 38] (by decide) rfl).self
  have hFc := va_free (wc := (fz_WC k q f pa v ++ ([(o, .inl (k 5, 1, .inr (.inl g)))]))) hD hS hA [0, 1, 2, 3, 4, 5, 6, 7, 8, 9, 10, 11, 12, 13, 14, 15, 16, 17, 18, 19, 20, 21, 22, 23, 24, 25, 26, 27, 28, 29, 30, 31, 32, 33, 34, 35, 36, 37, 38] rfl
  refine fz_hSi (As := [.ref (q 31), .int x1, .int x2, .int x3, .ref o]) (rest := []) S0 (h_setRule l hl0 (va_A (fz_WC k q f pa v ++ ([(o, .inl (k 5, 1, .inr (.inl g)))])) H.size) D k q f pa v o g x1 x2 x3 g_v_1 g_f_4_0 g_v_9 g_v_2 g_v_3 g_v_4 g_v_5 g_v_6 g_v_7 g_v_8 g_v_0 g_v_10 g_pa_1 g_f_11_0) (vx_cwSW 5 hts9 (fz_gSW fm_677 fm_851 fm_852 fm_816) rfl rfl rfl ⟨by decide, by decide, by decide +kernel⟩ ⟨Nat.le_of_ble_eq_true rfl, Nat.le_of_ble_eq_true rfl⟩) hFc (fun a9 h9 => Or.inr h9) hG hS hPc hK hDc rfl hl.1 rfl (Nat.le_of_ble_eq_true rfl) dL_law_588 ⟨Nat.le_of_ble_eq_true rfl, Nat.le_of_ble_eq_true rfl⟩ (fun r_1 u_1 H locs hw hz1 hk1 hP1 hS => ?_)
  obtain ⟨hP, hD⟩ := va_join (wr := ([(o2, .inl (k 6, 1, .inr (.inr (.inr (.inl g2)))))] ++ (fz_WM k q2 f2 pa2 v2))) (w1 := ([(o, .inl (k 5, 1, .inr (.inl u_1)))])) hP hD [0, 1, 2, 3, 4, 5, 6, 7, 8, 9, 10, 11, 12, 13, 14, 15, 16, 17, 18, 19, 20, 21, 22, 23, 24, 25, 26, 27, 28, 29, 30, 31, 32, 33, 34, 35, 36, 37, 38] [39, 40, 41, 42, 43, 44, 45, 46, 47] rfl rfl (by decide) (by decide) hk1 hFc hP1 (fz_Dsame (hDc.sub (ws' := [(o, .inl (k 5, 1, .inr (.inl g)))]) [38] (by decide) rfl) rfl)
  have hP : va_P D vwCl ([(o2, .inl (k 6, 1, .inr (.inr (.inr (.inl g2)))))] ++ (fz_WM k q2 f2 pa2 v2 ++ ([(o, .inl (k 5, 1, .inr (.inl u_1)))]))) H := hP
  have hD : va_D (fun q : Nat => s.heap.size ≤ q) ([(o2, .inl (k 6, 1, .inr (.inr (.inr (.inl g2)))))] ++ (fz_WM k q2 f2 pa2 v2 ++ ([(o, .inl (k 5, 1, .inr (.inl u_1)))]))) := hD
  rcases hw with ⟨rfl, hu_1, hc_1⟩ | ⟨rfl, hc_1⟩ | ⟨rfl, hc_1⟩
  · skip
    obtain rfl : x1 = 0 := (fq_215 x1 x2 x3 hc_1)
    refine lv_istore (lv' := [(6, .int 0), (5, .int 0), (4, .ref o2), (3, .ref o), (2, .ref (q2 0)), (1, .ref (q 31)), (0, .ref b)]) hx hb dL_law_591 hl (by decide) rfl (fun ls hl => ?_)
    refine lv_aload_n hx hb dL_law_593 rfl (lv_at hl 4 rfl) ?_
    refine lv_aload_n hx hb dL_law_594 rfl (lv_at hl 6 rfl) ?_
    refine lv_iload hx hb dL_law_595 (lv_at hl 1 rfl) ?_
    refine lv_iconst (v := 1) hx hb dL_law_597 (by decide) ?_
    refine lv_iadd hx hb dL_law_598 ?_
    refine fz_I (y := 1) (by decide) ?_
    refine va_sld hx hb hX hbl hbA hS (fz_vin (by decide)) dL_law_599 ?_
    refine fz_I (y := 0) ex1.symm ?_
    refine lv_aload_n hx hb dL_law_600 rfl (lv_at hl 6 rfl) ?_
    refine lv_iload hx hb dL_law_601 (lv_at hl 1 rfl) ?_
    refine lv_iconst (v := 2) hx hb dL_law_603 (by decide) ?_
    refine lv_iadd hx hb dL_law_604 ?_
    refine fz_I (y := 2) (by decide) ?_
    refine va_sld hx hb hX hbl hbA hS (fz_vin (by decide)) dL_law_605 ?_
    refine fz_I (y := x2) ex2.symm ?_
    refine lv_aload_n hx hb dL_law_606 rfl (lv_at hl 6 rfl) ?_
    refine lv_iload hx hb dL_law_607 (lv_at hl 1 rfl) ?_
    refine lv_iconst (v := 3) hx hb dL_law_609 (by decide) ?_
    refine lv_iadd hx hb dL_law_610 ?_
    refine fz_I (y := 3) (by decide) ?_
    refine va_sld hx hb hX hbl hbA hS (fz_vin (by decide)) dL_law_611 ?_
    refine fz_I (y := x3) ex3.symm ?_
    have hPc := hP.sub (ws' := (fz_WM k q2 f2 pa2 v2)) [1, 2, 3, 4, 5, 6, 7, 8] rfl
    have hDc : va_D (va_A (fz_WM k q2 f2 pa2 v2) H.size) (fz_WM k q2 f2 pa2 v2) := (hD.sub (ws' := (fz_WM k q2 f2 pa2 v2)) [1, 2, 3, 4, 5, 6, 7, 8] (by decide) rfl).self
    have hFc := va_free (wc := (fz_WM k q2 f2 pa2 v2)) hD hS hA [1, 2, 3, 4, 5, 6, 7, 8] rfl
    refine fz_cVi (As := [.int 0, .int x2, .int x3]) (rest := []) S0 (m_p_setRule l (va_A (fz_WM k q2 f2 pa2 v2) H.size) D k q2 f2 pa2 v2 0 x2 x3 n_f_1_0 n_f_1_7 n_v_5 n_pb_0 n_f_1_13) (fz_cwV (C := RX10) 3 hts9 fm_853 fm_854 fm_855 fm_856 fm_469 rfl rfl ⟨by decide, by decide, by decide +kernel⟩ ⟨Nat.le_of_ble_eq_true rfl, Nat.le_of_ble_eq_true rfl⟩) (va_recv hK hPc (ci := 14) (q0 := 0) rfl rfl) hFc (fun a9 h9 => Or.inr h9) hG hS hPc hK hDc rfl hl.1 rfl (Nat.le_of_ble_eq_true rfl) dL_law_612 ⟨Nat.le_of_ble_eq_true rfl, Nat.le_of_ble_eq_true rfl⟩ (fun r_2 u_2 H locs hw hz1 hk1 hP1 hS => ?_)
    obtain ⟨hP, hD⟩ := va_join (wr := ([(o2, .inl (k 6, 1, .inr (.inr (.inr (.inl g2)))))] ++ ([(o, .inl (k 5, 1, .inr (.inl u_1)))]))) (w1 := (fz_MO q2 u_2)) hP hD [1, 2, 3, 4, 5, 6, 7, 8] [0, 9] rfl rfl (by decide) (by decide) hk1 hFc hP1 (fz_Dsame (hDc.sub (ws' := fz_MO q2 v2) [0] (by decide) rfl) rfl)
    have hP : va_P D vwCl ([(o2, .inl (k 6, 1, .inr (.inr (.inr (.inl g2)))))] ++ ([(o, .inl (k 5, 1, .inr (.inl u_1)))] ++ (fz_MO q2 u_2))) H := hP
    have hD : va_D (fun q : Nat => s.heap.size ≤ q) ([(o2, .inl (k 6, 1, .inr (.inr (.inr (.inl g2)))))] ++ ([(o, .inl (k 5, 1, .inr (.inl u_1)))] ++ (fz_MO q2 u_2))) := hD
    rcases hw with ⟨rfl, ht_2, hc_2⟩ | ⟨rfl, ht_2, hc_2⟩ | ⟨rfl, ht_2, hc_2⟩
    · skip
      exact (fq_112 hc_2).elim
    · skip
      exact (fq_216 x2 x3 hc_1 hc_2).elim
    · skip
      refine lv_istore (lv' := [(7, .int (-1)), (6, .int 0), (5, .int 0), (4, .ref o2), (3, .ref o), (2, .ref (q2 0)), (1, .ref (q 31)), (0, .ref b)]) hx hb dL_law_615 hl (by decide) rfl (fun ls hl => ?_)
      refine lv_aload_n hx hb dL_law_617 rfl (lv_at hl 5 rfl) ?_
      have hPc := hP.sub (ws' := (fz_MO q2 u_2)) [2] rfl
      have hDc : va_D (va_A (fz_MO q2 u_2) H.size) (fz_MO q2 u_2) := (hD.sub (ws' := (fz_MO q2 u_2)) [2] (by decide) rfl).self
      have hFc := va_free (wc := (fz_MO q2 u_2)) hD hS hA [2] rfl
      refine fz_cVi (As := []) (rest := []) S0 (m_thrown l (va_A (fz_MO q2 u_2) H.size) D k q2 u_2) (fz_cwV (C := RX10) 0 hts9 fm_823 fm_824 fm_825 fm_826 fm_469 rfl rfl ⟨by decide, by decide, by decide +kernel⟩ ⟨Nat.le_of_ble_eq_true rfl, Nat.le_of_ble_eq_true rfl⟩) (va_recv hK hPc (ci := 14) (q0 := 0) rfl rfl) hFc (fun a9 h9 => Or.inr h9) hG hS hPc hK hDc rfl hl.1 rfl (Nat.le_of_ble_eq_true rfl) dL_law_618 ⟨Nat.le_of_ble_eq_true rfl, Nat.le_of_ble_eq_true rfl⟩ (fun r_3 u_3 H locs hw hz1 hk1 hP1 hS => ?_)
      obtain ⟨hP, hD⟩ := va_join (wr := ([(o2, .inl (k 6, 1, .inr (.inr (.inr (.inl g2)))))] ++ ([(o, .inl (k 5, 1, .inr (.inl u_1)))]))) (w1 := (fz_MO q2 u_2)) hP hD [2] [0, 1] rfl rfl (by decide) (by decide) hk1 hFc hP1 hDc
      have hP : va_P D vwCl ([(o2, .inl (k 6, 1, .inr (.inr (.inr (.inl g2)))))] ++ ([(o, .inl (k 5, 1, .inr (.inl u_1)))] ++ (fz_MO q2 u_2))) H := hP
      have hD : va_D (fun q : Nat => s.heap.size ≤ q) ([(o2, .inl (k 6, 1, .inr (.inr (.inr (.inl g2)))))] ++ ([(o, .inl (k 5, 1, .inr (.inl u_1)))] ++ (fz_MO q2 u_2))) := hD
      obtain rfl : r_3 = u_2 0 := hw
      refine fz_I (y := 0) ht_2 ?_
      refine lv_iload hx hb dL_law_621 (lv_at hl 1 rfl) ?_
      refine lv_icmp_eq (tgt := 628) hx hb dL_law_623 (by decide) (fun c9 => ?_) (fun c9 => absurd (by decide) c9)
      refine lv_iload hx hb dL_law_628 (lv_at hl 1 rfl) ?_
      refine lv_if_ne (tgt := 645) hx hb dL_law_630 (by decide) (fun c9 => absurd (by decide) c9) (fun c9 => ?_)
      refine lv_aload_n hx hb dL_law_633 rfl (lv_at hl 4 rfl) ?_
      refine lv_iconst (v := 0) hx hb dL_law_634 (by decide) ?_
      refine va_lald hx hb hK hP 1 5 rfl rfl (fz_vin (by decide)) dL_law_635 ?_
      refine fz_V (y := .long (((-1) : Int32).toInt64)) (congrArg Value.long hu_1) ?_
      refine lv_iload hx hb dL_law_636 (lv_at hl 0 rfl) ?_
      refine lv_i2l (v := ((-1) : Int32).toInt64) hx hb dL_law_638 rfl ?_
      refine W.lcmp hx hb dL_law_639 ?_
      refine fz_I (y := 0) (by decide) ?_
      refine lv_if_eq (tgt := 645) hx hb dL_law_640 (by decide) (fun c9 => ?_) (fun c9 => absurd (by decide) c9)
      refine lv_goto (tgt := 2457) hx hb dL_law_645 (by decide) ?_
      exact lw_tail hL C0 (Nat.le_of_ble_eq_true rfl) (Nat.le_of_ble_eq_true rfl) hS ls (lv_sub hl [2, 7] rfl)
  · skip
    refine lv_istore (lv' := [(6, .int 1), (5, .int 0), (4, .ref o2), (3, .ref o), (2, .ref (q2 0)), (1, .ref (q 31)), (0, .ref b)]) hx hb dL_law_591 hl (by decide) rfl (fun ls hl => ?_)
    refine lv_aload_n hx hb dL_law_593 rfl (lv_at hl 4 rfl) ?_
    refine lv_aload_n hx hb dL_law_594 rfl (lv_at hl 6 rfl) ?_
    refine lv_iload hx hb dL_law_595 (lv_at hl 1 rfl) ?_
    refine lv_iconst (v := 1) hx hb dL_law_597 (by decide) ?_
    refine lv_iadd hx hb dL_law_598 ?_
    refine fz_I (y := 1) (by decide) ?_
    refine va_sld hx hb hX hbl hbA hS (fz_vin (by decide)) dL_law_599 ?_
    refine fz_I (y := x1) ex1.symm ?_
    refine lv_aload_n hx hb dL_law_600 rfl (lv_at hl 6 rfl) ?_
    refine lv_iload hx hb dL_law_601 (lv_at hl 1 rfl) ?_
    refine lv_iconst (v := 2) hx hb dL_law_603 (by decide) ?_
    refine lv_iadd hx hb dL_law_604 ?_
    refine fz_I (y := 2) (by decide) ?_
    refine va_sld hx hb hX hbl hbA hS (fz_vin (by decide)) dL_law_605 ?_
    refine fz_I (y := x2) ex2.symm ?_
    refine lv_aload_n hx hb dL_law_606 rfl (lv_at hl 6 rfl) ?_
    refine lv_iload hx hb dL_law_607 (lv_at hl 1 rfl) ?_
    refine lv_iconst (v := 3) hx hb dL_law_609 (by decide) ?_
    refine lv_iadd hx hb dL_law_610 ?_
    refine fz_I (y := 3) (by decide) ?_
    refine va_sld hx hb hX hbl hbA hS (fz_vin (by decide)) dL_law_611 ?_
    refine fz_I (y := x3) ex3.symm ?_
    have hPc := hP.sub (ws' := (fz_WM k q2 f2 pa2 v2)) [1, 2, 3, 4, 5, 6, 7, 8] rfl
    have hDc : va_D (va_A (fz_WM k q2 f2 pa2 v2) H.size) (fz_WM k q2 f2 pa2 v2) := (hD.sub (ws' := (fz_WM k q2 f2 pa2 v2)) [1, 2, 3, 4, 5, 6, 7, 8] (by decide) rfl).self
    have hFc := va_free (wc := (fz_WM k q2 f2 pa2 v2)) hD hS hA [1, 2, 3, 4, 5, 6, 7, 8] rfl
    refine fz_cVi (As := [.int x1, .int x2, .int x3]) (rest := []) S0 (m_p_setRule l (va_A (fz_WM k q2 f2 pa2 v2) H.size) D k q2 f2 pa2 v2 x1 x2 x3 n_f_1_0 n_f_1_7 n_v_5 n_pb_0 n_f_1_13) (fz_cwV (C := RX10) 3 hts9 fm_853 fm_854 fm_855 fm_856 fm_469 rfl rfl ⟨by decide, by decide, by decide +kernel⟩ ⟨Nat.le_of_ble_eq_true rfl, Nat.le_of_ble_eq_true rfl⟩) (va_recv hK hPc (ci := 14) (q0 := 0) rfl rfl) hFc (fun a9 h9 => Or.inr h9) hG hS hPc hK hDc rfl hl.1 rfl (Nat.le_of_ble_eq_true rfl) dL_law_612 ⟨Nat.le_of_ble_eq_true rfl, Nat.le_of_ble_eq_true rfl⟩ (fun r_2 u_2 H locs hw hz1 hk1 hP1 hS => ?_)
    obtain ⟨hP, hD⟩ := va_join (wr := ([(o2, .inl (k 6, 1, .inr (.inr (.inr (.inl g2)))))] ++ ([(o, .inl (k 5, 1, .inr (.inl u_1)))]))) (w1 := (fz_MO q2 u_2)) hP hD [1, 2, 3, 4, 5, 6, 7, 8] [0, 9] rfl rfl (by decide) (by decide) hk1 hFc hP1 (fz_Dsame (hDc.sub (ws' := fz_MO q2 v2) [0] (by decide) rfl) rfl)
    have hP : va_P D vwCl ([(o2, .inl (k 6, 1, .inr (.inr (.inr (.inl g2)))))] ++ ([(o, .inl (k 5, 1, .inr (.inl u_1)))] ++ (fz_MO q2 u_2))) H := hP
    have hD : va_D (fun q : Nat => s.heap.size ≤ q) ([(o2, .inl (k 6, 1, .inr (.inr (.inr (.inl g2)))))] ++ ([(o, .inl (k 5, 1, .inr (.inl u_1)))] ++ (fz_MO q2 u_2))) := hD
    rcases hw with ⟨rfl, ht_2, hc_2⟩ | ⟨rfl, ht_2, hc_2⟩ | ⟨rfl, ht_2, hc_2⟩
    · skip
      refine lv_istore (lv' := [(7, .int 0), (6, .int 1), (5, .int 0), (4, .ref o2), (3, .ref o), (2, .ref (q2 0)), (1, .ref (q 31)), (0, .ref b)]) hx hb dL_law_615 hl (by decide) rfl (fun ls hl => ?_)
      refine lv_aload_n hx hb dL_law_617 rfl (lv_at hl 5 rfl) ?_
      have hPc := hP.sub (ws' := (fz_MO q2 u_2)) [2] rfl
      have hDc : va_D (va_A (fz_MO q2 u_2) H.size) (fz_MO q2 u_2) := (hD.sub (ws' := (fz_MO q2 u_2)) [2] (by decide) rfl).self
      have hFc := va_free (wc := (fz_MO q2 u_2)) hD hS hA [2] rfl
      refine fz_cVi (As := []) (rest := []) S0 (m_thrown l (va_A (fz_MO q2 u_2) H.size) D k q2 u_2) (fz_cwV (C := RX10) 0 hts9 fm_823 fm_824 fm_825 fm_826 fm_469 rfl rfl ⟨by decide, by decide, by decide +kernel⟩ ⟨Nat.le_of_ble_eq_true rfl, Nat.le_of_ble_eq_true rfl⟩) (va_recv hK hPc (ci := 14) (q0 := 0) rfl rfl) hFc (fun a9 h9 => Or.inr h9) hG hS hPc hK hDc rfl hl.1 rfl (Nat.le_of_ble_eq_true rfl) dL_law_618 ⟨Nat.le_of_ble_eq_true rfl, Nat.le_of_ble_eq_true rfl⟩ (fun r_3 u_3 H locs hw hz1 hk1 hP1 hS => ?_)
      obtain ⟨hP, hD⟩ := va_join (wr := ([(o2, .inl (k 6, 1, .inr (.inr (.inr (.inl g2)))))] ++ ([(o, .inl (k 5, 1, .inr (.inl u_1)))]))) (w1 := (fz_MO q2 u_2)) hP hD [2] [0, 1] rfl rfl (by decide) (by decide) hk1 hFc hP1 hDc
      have hP : va_P D vwCl ([(o2, .inl (k 6, 1, .inr (.inr (.inr (.inl g2)))))] ++ ([(o, .inl (k 5, 1, .inr (.inl u_1)))] ++ (fz_MO q2 u_2))) H := hP
      have hD : va_D (fun q : Nat => s.heap.size ≤ q) ([(o2, .inl (k 6, 1, .inr (.inr (.inr (.inl g2)))))] ++ ([(o, .inl (k 5, 1, .inr (.inl u_1)))] ++ (fz_MO q2 u_2))) := hD
      obtain rfl : r_3 = u_2 0 := hw
      refine fz_I (y := 1) ht_2 ?_
      refine lv_iload hx hb dL_law_621 (lv_at hl 1 rfl) ?_
      refine lv_icmp_eq (tgt := 628) hx hb dL_law_623 (by decide) (fun c9 => ?_) (fun c9 => absurd (by decide) c9)
      refine lv_iload hx hb dL_law_628 (lv_at hl 1 rfl) ?_
      refine lv_if_ne (tgt := 645) hx hb dL_law_630 (by decide) (fun c9 => ?_) (fun c9 => absurd c9 (by decide))
      refine lv_goto (tgt := 2457) hx hb dL_law_645 (by decide) ?_
      exact lw_tail hL C0 (Nat.le_of_ble_eq_true rfl) (Nat.le_of_ble_eq_true rfl) hS ls (lv_sub hl [2, 7] rfl)
    · skip
      exact (fq_217 x1 x2 x3 hc_1 hc_2).elim
    · skip
      exact (fq_218 x1 x2 x3 hc_1 hc_2).elim
  · skip
    obtain rfl : x1 = 0 := (fq_219 x1 x2 x3 hc_1)
    refine lv_istore (lv' := [(6, .int 2), (5, .int 0), (4, .ref o2), (3, .ref o), (2, .ref (q2 0)), (1, .ref (q 31)), (0, .ref b)]) hx hb dL_law_591 hl (by decide) rfl (fun ls hl => ?_)
    refine lv_aload_n hx hb dL_law_593 rfl (lv_at hl 4 rfl) ?_
    refine lv_aload_n hx hb dL_law_594 rfl (lv_at hl 6 rfl) ?_
    refine lv_iload hx hb dL_law_595 (lv_at hl 1 rfl) ?_
    refine lv_iconst (v := 1) hx hb dL_law_597 (by decide) ?_
    refine lv_iadd hx hb dL_law_598 ?_
    refine fz_I (y := 1) (by decide) ?_
    refine va_sld hx hb hX hbl hbA hS (fz_vin (by decide)) dL_law_599 ?_
    refine fz_I (y := 0) ex1.symm ?_
    refine lv_aload_n hx hb dL_law_600 rfl (lv_at hl 6 rfl) ?_
    refine lv_iload hx hb dL_law_601 (lv_at hl 1 rfl) ?_
    refine lv_iconst (v := 2) hx hb dL_law_603 (by decide) ?_
    refine lv_iadd hx hb dL_law_604 ?_
    refine fz_I (y := 2) (by decide) ?_
    refine va_sld hx hb hX hbl hbA hS (fz_vin (by decide)) dL_law_605 ?_
    refine fz_I (y := x2) ex2.symm ?_
    refine lv_aload_n hx hb dL_law_606 rfl (lv_at hl 6 rfl) ?_
    refine lv_iload hx hb dL_law_607 (lv_at hl 1 rfl) ?_
    refine lv_iconst (v := 3) hx hb dL_law_609 (by decide) ?_
    refine lv_iadd hx hb dL_law_610 ?_
    refine fz_I (y := 3) (by decide) ?_
    refine va_sld hx hb hX hbl hbA hS (fz_vin (by decide)) dL_law_611 ?_
    refine fz_I (y := x3) ex3.symm ?_
    have hPc := hP.sub (ws' := (fz_WM k q2 f2 pa2 v2)) [1, 2, 3, 4, 5, 6, 7, 8] rfl
    have hDc : va_D (va_A (fz_WM k q2 f2 pa2 v2) H.size) (fz_WM k q2 f2 pa2 v2) := (hD.sub (ws' := (fz_WM k q2 f2 pa2 v2)) [1, 2, 3, 4, 5, 6, 7, 8] (by decide) rfl).self
    have hFc := va_free (wc := (fz_WM k q2 f2 pa2 v2)) hD hS hA [1, 2, 3, 4, 5, 6, 7, 8] rfl
    refine fz_cVi (As := [.int 0, .int x2, .int x3]) (rest := []) S0 (m_p_setRule l (va_A (fz_WM k q2 f2 pa2 v2) H.size) D k q2 f2 pa2 v2 0 x2 x3 n_f_1_0 n_f_1_7 n_v_5 n_pb_0 n_f_1_13) (fz_cwV (C := RX10) 3 hts9 fm_853 fm_854 fm_855 fm_856 fm_469 rfl rfl ⟨by decide, by decide, by decide +kernel⟩ ⟨Nat.le_of_ble_eq_true rfl, Nat.le_of_ble_eq_true rfl⟩) (va_recv hK hPc (ci := 14) (q0 := 0) rfl rfl) hFc (fun a9 h9 => Or.inr h9) hG hS hPc hK hDc rfl hl.1 rfl (Nat.le_of_ble_eq_true rfl) dL_law_612 ⟨Nat.le_of_ble_eq_true rfl, Nat.le_of_ble_eq_true rfl⟩ (fun r_2 u_2 H locs hw hz1 hk1 hP1 hS => ?_)
    obtain ⟨hP, hD⟩ := va_join (wr := ([(o2, .inl (k 6, 1, .inr (.inr (.inr (.inl g2)))))] ++ ([(o, .inl (k 5, 1, .inr (.inl u_1)))]))) (w1 := (fz_MO q2 u_2)) hP hD [1, 2, 3, 4, 5, 6, 7, 8] [0, 9] rfl rfl (by decide) (by decide) hk1 hFc hP1 (fz_Dsame (hDc.sub (ws' := fz_MO q2 v2) [0] (by decide) rfl) rfl)
    have hP : va_P D vwCl ([(o2, .inl (k 6, 1, .inr (.inr (.inr (.inl g2)))))] ++ ([(o, .inl (k 5, 1, .inr (.inl u_1)))] ++ (fz_MO q2 u_2))) H := hP
    have hD : va_D (fun q : Nat => s.heap.size ≤ q) ([(o2, .inl (k 6, 1, .inr (.inr (.inr (.inl g2)))))] ++ ([(o, .inl (k 5, 1, .inr (.inl u_1)))] ++ (fz_MO q2 u_2))) := hD
    rcases hw with ⟨rfl, ht_2, hc_2⟩ | ⟨rfl, ht_2, hc_2⟩ | ⟨rfl, ht_2, hc_2⟩
    · skip
      exact (fq_112 hc_2).elim
    · skip
      refine lv_istore (lv' := [(7, .int 0), (6, .int 2), (5, .int 0), (4, .ref o2), (3, .ref o), (2, .ref (q2 0)), (1, .ref (q 31)), (0, .ref b)]) hx hb dL_law_615 hl (by decide) rfl (fun ls hl => ?_)
      refine lv_aload_n hx hb dL_law_617 rfl (lv_at hl 5 rfl) ?_
      have hPc := hP.sub (ws' := (fz_MO q2 u_2)) [2] rfl
      have hDc : va_D (va_A (fz_MO q2 u_2) H.size) (fz_MO q2 u_2) := (hD.sub (ws' := (fz_MO q2 u_2)) [2] (by decide) rfl).self
      have hFc := va_free (wc := (fz_MO q2 u_2)) hD hS hA [2] rfl
      refine fz_cVi (As := []) (rest := []) S0 (m_thrown l (va_A (fz_MO q2 u_2) H.size) D k q2 u_2) (fz_cwV (C := RX10) 0 hts9 fm_823 fm_824 fm_825 fm_826 fm_469 rfl rfl ⟨by decide, by decide, by decide +kernel⟩ ⟨Nat.le_of_ble_eq_true rfl, Nat.le_of_ble_eq_true rfl⟩) (va_recv hK hPc (ci := 14) (q0 := 0) rfl rfl) hFc (fun a9 h9 => Or.inr h9) hG hS hPc hK hDc rfl hl.1 rfl (Nat.le_of_ble_eq_true rfl) dL_law_618 ⟨Nat.le_of_ble_eq_true rfl, Nat.le_of_ble_eq_true rfl⟩ (fun r_3 u_3 H locs hw hz1 hk1 hP1 hS => ?_)
      obtain ⟨hP, hD⟩ := va_join (wr := ([(o2, .inl (k 6, 1, .inr (.inr (.inr (.inl g2)))))] ++ ([(o, .inl (k 5, 1, .inr (.inl u_1)))]))) (w1 := (fz_MO q2 u_2)) hP hD [2] [0, 1] rfl rfl (by decide) (by decide) hk1 hFc hP1 hDc
      have hP : va_P D vwCl ([(o2, .inl (k 6, 1, .inr (.inr (.inr (.inl g2)))))] ++ ([(o, .inl (k 5, 1, .inr (.inl u_1)))] ++ (fz_MO q2 u_2))) H := hP
      have hD : va_D (fun q : Nat => s.heap.size ≤ q) ([(o2, .inl (k 6, 1, .inr (.inr (.inr (.inl g2)))))] ++ ([(o, .inl (k 5, 1, .inr (.inl u_1)))] ++ (fz_MO q2 u_2))) := hD
      obtain rfl : r_3 = u_2 0 := hw
      refine fz_I (y := 2) ht_2 ?_
      refine lv_iload hx hb dL_law_621 (lv_at hl 1 rfl) ?_
      refine lv_icmp_eq (tgt := 628) hx hb dL_law_623 (by decide) (fun c9 => ?_) (fun c9 => absurd (by decide) c9)
      refine lv_iload hx hb dL_law_628 (lv_at hl 1 rfl) ?_
      refine lv_if_ne (tgt := 645) hx hb dL_law_630 (by decide) (fun c9 => ?_) (fun c9 => absurd c9 (by decide))
      refine lv_goto (tgt := 2457) hx hb dL_law_645 (by decide) ?_
      exact lw_tail hL C0 (Nat.le_of_ble_eq_true rfl) (Nat.le_of_ble_eq_true rfl) hS ls (lv_sub hl [2, 7] rfl)
    · skip
      exact (fq_220 x2 x3 hc_1 hc_2).elim

set_option maxHeartbeats 8000000 in
set_option maxRecDepth 100000 in
theorem lw_case6 {p : Program} {l : Launch} {e : Env} {s : State} {m : MethodId} {below : List Frame} {meth : Method} {c : Code} {D : va_G} {b L : Nat} {xs : Nat → Int32} (hl0 : l.stackTraces = false) (hL : L = 6) (C0 : lw_At p s m meth c b L xs) (hG : fz_GS (fun q : Nat => s.heap.size ≤ q) s) (k : Nat → ClassId) (hK : va_K D vwCl (fz_tys k) s) (q q2 : Nat → Nat) (f f2 : Nat → Nat → Int32) (pa pa2 : Nat → Option Nat) (v v2 : Nat → Int32) (o o2 : Nat) (g : Nat → Int64) (g2 : Nat → UInt64) (hF : fz_LF q2 f pa v f2 pa2 v2) (H : Heap) (locs : List Loc) (hP : va_P D vwCl (fz_WC k q f pa v ++ ([(o, .inl (k 5, 1, .inr (.inl g)))] ++ ([(o2, .inl (k 6, 1, .inr (.inr (.inr (.inl g2)))))] ++ (fz_WM k q2 f2 pa2 v2)))) H) (hD : va_D (fun q : Nat => s.heap.size ≤ q) (fz_WC k q f pa v ++ ([(o, .inl (k 5, 1, .inr (.inl g)))] ++ ([(o2, .inl (k 6, 1, .inr (.inr (.inr (.inl g2)))))] ++ (fz_WM k q2 f2 pa2 v2))))) (hS : va_S (fun q : Nat => s.heap.size ≤ q) s.heap H locs) (ls : Array Slot) (hl : lv_has ls 9 [(5, .int 0), (4, .ref o2), (3, .ref o), (2, .ref (q2 0)), (1, .ref (q 31)), (0, .ref b)]) :
    W p l e room_1 s m #[Value.ref b] below meth c H locs 2000 400000 (lw_Z below #[Value.ref b] s) (F0 m 648 ls []) := by
  obtain ⟨g_v_0, g_v_1, g_v_2, g_v_3, g_v_4, g_v_5, g_v_6, g_v_7, g_v_8, g_v_9, g_v_10, g_v_11, g_v_12, g_v_13, g_v_14, g_v_15, g_v_17, g_f_2_0, g_f_4_0, g_f_5_0, g_f_6_0, g_f_7_0, g_f_8_0, g_f_9_0, g_f_11_0, g_f_18_0, g_f_19_0, g_pa_0, g_pa_1, g_pa_8, n_v_0, n_v_5, n_v_6, n_v_7, n_v_8, n_v_9, n_v_10, n_v_11, n_v_12, n_v_13, n_v_15, n_v_16, n_v_17, n_v_18, n_v_19, n_v_21, n_f_1_0, n_f_1_1, n_f_1_2, n_f_1_3, n_f_1_4, n_f_1_5, n_f_1_6, n_f_1_7, n_f_1_8, n_f_1_9, n_f_1_10, n_f_1_11, n_f_1_12, n_f_1_13, n_f_1_15, n_f_1_16, n_f_1_17, n_pb_0⟩ := hF
  obtain ⟨hx, hb, hr, hml, hown, hts, hX, hbl, hlocks, hgv⟩ := id C0
  subst hL
  have hL : (6 : Nat) = 6 := rfl
  have hA : ∀ q : Nat, s.heap.size ≤ q → (fun q : Nat => s.heap.size ≤ q) q := fun _ h => h
  have hbA : ¬ (fun q : Nat => s.heap.size ≤ q) b := Nat.not_le.mpr hbl
  have hts9 := fz_hts9 hts
  have hown : s.vm.findClass RL = some m.cls := hown
  have S0 : CallFix p m c code 9 s #[Value.ref b] (Cond.initialized RL :: fz_WA) RL := ⟨hx, hb, hml, hown, hts9⟩
  obtain ⟨x1, ex1⟩ : ∃ z, z = xs 1 := ⟨_, rfl⟩
  obtain ⟨x2, ex2⟩ : ∃ z, z = xs 2 := ⟨_, rfl⟩
  obtain ⟨x3, ex3⟩ : ∃ z, z = xs 3 := ⟨_, rfl⟩
  obtain ⟨x4, ex4⟩ : ∃ z, z = xs 4 := ⟨_, rfl⟩
  obtain ⟨x5, ex5⟩ : ∃ z, z = xs 5 := ⟨_, rfl⟩
  refine lv_aload_n hx hb dL_law_648 rfl (lv_at hl 4 rfl) ?_
  refine lv_aload_n hx hb dL_law_649 rfl (lv_at hl 5 rfl) ?_
  refine lv_iload hx hb dL_law_650 (lv_at hl 0 rfl) ?_
  refine lv_iconst (v := 1) hx hb dL_law_652 (by decide) ?_
  refine lv_iadd hx hb dL_law_653 ?_
  refine fz_I (y := 1) (by decide) ?_
  refine va_sld hx hb hX hbl hbA hS (fz_vin (by decide)) dL_law_654 ?_
  refine fz_I (y := x1) ex1.symm ?_
  refine lv_aload_n hx hb dL_law_655 rfl (lv_at hl 5 rfl) ?_
  refine lv_iload hx hb dL_law_656 (lv_at hl 0 rfl) ?_
  refine lv_iconst (v := 2) hx hb dL_law_658 (by decide) ?_
  refine lv_iadd hx hb dL_law_659 ?_
  refine fz_I (y := 2) (by decide) ?_
  refine va_sld hx hb hX hbl hbA hS (fz_vin (by decide)) dL_law_660 ?_
  refine fz_I (y := x2) ex2.symm ?_
  refine lv_aload_n hx hb dL_law_661 rfl (lv_at hl 5 rfl) ?_
  refine lv_iload hx hb dL_law_662 (lv_at hl 0 rfl) ?_
  refine lv_iconst (v := 3) hx hb dL_law_664 (by decide) ?_
  refine lv_iadd hx hb dL_law_665 ?_
  refine fz_I (y := 3) (by decide) ?_
  refine va_sld hx hb hX hbl hbA hS (fz_vin (by decide)) dL_law_666 ?_
  refine fz_I (y := x3) ex3.symm ?_
  refine lv_aload_n hx hb dL_law_667 rfl (lv_at hl 2 rfl) ?_
  have hPc := hP.sub (ws' := (fz_WC k q f pa v ++ ([(o, .inl (k 5, 1, .inr (.inl g)))]))) [0, 1, 2, 3, 4, 5, 6, 7, 8, 9, 10, 11, 12, 13, 14, 15, 16, 17, 18, 19, 20, 21, 22, 23, 24, 25, 26, 27, 28, 29, 30, 31, 32, 33, 34, 35, 36, 37, 38] rfl
  have hDc : va_D (va_A (fz_WC k q f pa v ++ ([(o, .inl (k 5, 1, .inr (.inl g)))])) H.size) (fz_WC k q f pa v ++ ([(o, .inl (k 5, 1, .inr (.inl g)))])) := (hD.sub (ws' := (fz_WC k q f pa v ++ ([(o, .inl (k 5, 1, .inr (.inl g)))]))) [0, 1, 2, 3, 4, 5, 6, 7, 8, 9, 10, 11, 12, 13, 14, 15, 16, 17, 18, 19, 20, 21, 22, 23, 24, 25, 26, 27, 28, 29, 30, 31, 32, 33, 34, 35, 36, 37, 38] (by decide) rfl).self
  have hFc := va_free (wc := (fz_WC k q f pa v ++ ([(o, .inl (k 5, 1, .inr (.inl g)))]))) hD hS hA [0, 1, 2, 3, 4, 5, 6, 7, 8, 9, 10, 11, 12, 13, 14, 15, 16, 17, 18, 19, 20, 21, 22, 23, 24, 25, 26, 27, 28, 29, 30, 31, 32, 33, 34, 35, 36, 37, 38] rfl
  refine fz_hSi (As := [.ref (q 31), .int x1, .int x2, .int x3, .ref o]) (rest := []) S0 (h_setPage l hl0 (va_A (fz_WC k q f pa v ++ ([(o, .inl (k 5, 1, .inr (.inl g)))])) H.size) D k q f pa v o g x1 x2 x3 g_v_1 g_f_4_0 g_f_7_0) (vx_cwSW 5 hts9 (fz_gSW fm_682 fm_857 fm_858 fm_816) rfl rfl rfl ⟨by decide, by decide, by decide +kernel⟩ ⟨Nat.le_of_ble_eq_true rfl, Nat.le_of_ble_eq_true rfl⟩) hFc (fun a9 h9 => Or.inr h9) hG hS hPc hK hDc rfl hl.1 rfl (Nat.le_of_ble_eq_true rfl) dL_law_668 ⟨Nat.le_of_ble_eq_true rfl, Nat.le_of_ble_eq_true rfl⟩ (fun r_1 u_1 H locs hw hz1 hk1 hP1 hS => ?_)
  obtain ⟨hP, hD⟩ := va_join (wr := ([(o2, .inl (k 6, 1, .inr (.inr (.inr (.inl g2)))))] ++ (fz_WM k q2 f2 pa2 v2))) (w1 := ([(o, .inl (k 5, 1, .inr (.inl u_1)))])) hP hD [0, 1, 2, 3, 4, 5, 6, 7, 8, 9, 10, 11, 12, 13, 14, 15, 16, 17, 18, 19, 20, 21, 22, 23, 24, 25, 26, 27, 28, 29, 30, 31, 32, 33, 34, 35, 36, 37, 38] [39, 40, 41, 42, 43, 44, 45, 46, 47] rfl rfl (by decide) (by decide) hk1 hFc hP1 (fz_Dsame (hDc.sub (ws' := [(o, .inl (k 5, 1, .inr (.inl g)))]) [38] (by decide) rfl) rfl)
  have hP : va_P D vwCl ([(o2, .inl (k 6, 1, .inr (.inr (.inr (.inl g2)))))] ++ (fz_WM k q2 f2 pa2 v2 ++ ([(o, .inl (k 5, 1, .inr (.inl u_1)))]))) H := hP
  have hD : va_D (fun q : Nat => s.heap.size ≤ q) ([(o2, .inl (k 6, 1, .inr (.inr (.inr (.inl g2)))))] ++ (fz_WM k q2 f2 pa2 v2 ++ ([(o, .inl (k 5, 1, .inr (.inl u_1)))]))) := hD
  rcases hw with ⟨rfl, hc_1⟩
  · skip
    refine lv_istore (lv' := [(6, .int 1), (5, .int 0), (4, .ref o2), (3, .ref o), (2, .ref (q2 0)), (1, .ref (q 31)), (0, .ref b)]) hx hb dL_law_671 hl (by decide) rfl (fun ls hl => ?_)
    refine lv_aload_n hx hb dL_law_673 rfl (lv_at hl 4 rfl) ?_
    refine lv_aload_n hx hb dL_law_674 rfl (lv_at hl 6 rfl) ?_
    refine lv_iload hx hb dL_law_675 (lv_at hl 1 rfl) ?_
    refine lv_iconst (v := 1) hx hb dL_law_677 (by decide) ?_
    refine lv_iadd hx hb dL_law_678 ?_
    refine fz_I (y := 1) (by decide) ?_
    refine va_sld hx hb hX hbl hbA hS (fz_vin (by decide)) dL_law_679 ?_
    refine fz_I (y := x1) ex1.symm ?_
    refine lv_aload_n hx hb dL_law_680 rfl (lv_at hl 6 rfl) ?_
    refine lv_iload hx hb dL_law_681 (lv_at hl 1 rfl) ?_
    refine lv_iconst (v := 2) hx hb dL_law_683 (by decide) ?_
    refine lv_iadd hx hb dL_law_684 ?_
    refine fz_I (y := 2) (by decide) ?_
    refine va_sld hx hb hX hbl hbA hS (fz_vin (by decide)) dL_law_685 ?_
    refine fz_I (y := x2) ex2.symm ?_
    refine lv_aload_n hx hb dL_law_686 rfl (lv_at hl 6 rfl) ?_
    refine lv_iload hx hb dL_law_687 (lv_at hl 1 rfl) ?_
    refine lv_iconst (v := 3) hx hb dL_law_689 (by decide) ?_
    refine lv_iadd hx hb dL_law_690 ?_
    refine fz_I (y := 3) (by decide) ?_
    refine va_sld hx hb hX hbl hbA hS (fz_vin (by decide)) dL_law_691 ?_
    refine fz_I (y := x3) ex3.symm ?_
    have hPc := hP.sub (ws' := (fz_WM k q2 f2 pa2 v2)) [1, 2, 3, 4, 5, 6, 7, 8] rfl
    have hDc : va_D (va_A (fz_WM k q2 f2 pa2 v2) H.size) (fz_WM k q2 f2 pa2 v2) := (hD.sub (ws' := (fz_WM k q2 f2 pa2 v2)) [1, 2, 3, 4, 5, 6, 7, 8] (by decide) rfl).self
    have hFc := va_free (wc := (fz_WM k q2 f2 pa2 v2)) hD hS hA [1, 2, 3, 4, 5, 6, 7, 8] rfl
    refine fz_cVi (As := [.int x1, .int x2, .int x3]) (rest := []) S0 (m_p_setPage l (va_A (fz_WM k q2 f2 pa2 v2) H.size) D k q2 f2 pa2 v2 x1 x2 x3 n_f_1_0 n_f_1_7 n_f_1_10) (fz_cwV (C := RX10) 3 hts9 fm_859 fm_860 fm_861 fm_862 fm_469 rfl rfl ⟨by decide, by decide, by decide +kernel⟩ ⟨Nat.le_of_ble_eq_true rfl, Nat.le_of_ble_eq_true rfl⟩) (va_recv hK hPc (ci := 14) (q0 := 0) rfl rfl) hFc (fun a9 h9 => Or.inr h9) hG hS hPc hK hDc rfl hl.1 rfl (Nat.le_of_ble_eq_true rfl) dL_law_692 ⟨Nat.le_of_ble_eq_true rfl, Nat.le_of_ble_eq_true rfl⟩ (fun r_2 u_2 H locs hw hz1 hk1 hP1 hS => ?_)
    obtain ⟨hP, hD⟩ := va_join (wr := ([(o2, .inl (k 6, 1, .inr (.inr (.inr (.inl g2)))))] ++ ([(o, .inl (k 5, 1, .inr (.inl u_1)))]))) (w1 := (fz_MO q2 u_2)) hP hD [1, 2, 3, 4, 5, 6, 7, 8] [0, 9] rfl rfl (by decide) (by decide) hk1 hFc hP1 (fz_Dsame (hDc.sub (ws' := fz_MO q2 v2) [0] (by decide) rfl) rfl)
    have hP : va_P D vwCl ([(o2, .inl (k 6, 1, .inr (.inr (.inr (.inl g2)))))] ++ ([(o, .inl (k 5, 1, .inr (.inl u_1)))] ++ (fz_MO q2 u_2))) H := hP
    have hD : va_D (fun q : Nat => s.heap.size ≤ q) ([(o2, .inl (k 6, 1, .inr (.inr (.inr (.inl g2)))))] ++ ([(o, .inl (k 5, 1, .inr (.inl u_1)))] ++ (fz_MO q2 u_2))) := hD
    rcases hw with ⟨rfl, ht_2, hc_2⟩
    · skip
      refine lv_istore (lv' := [(7, .int 0), (6, .int 1), (5, .int 0), (4, .ref o2), (3, .ref o), (2, .ref (q2 0)), (1, .ref (q 31)), (0, .ref b)]) hx hb dL_law_695 hl (by decide) rfl (fun ls hl => ?_)
      refine lv_aload_n hx hb dL_law_697 rfl (lv_at hl 5 rfl) ?_
      have hPc := hP.sub (ws' := (fz_MO q2 u_2)) [2] rfl
      have hDc : va_D (va_A (fz_MO q2 u_2) H.size) (fz_MO q2 u_2) := (hD.sub (ws' := (fz_MO q2 u_2)) [2] (by decide) rfl).self
      have hFc := va_free (wc := (fz_MO q2 u_2)) hD hS hA [2] rfl
      refine fz_cVi (As := []) (rest := []) S0 (m_thrown l (va_A (fz_MO q2 u_2) H.size) D k q2 u_2) (fz_cwV (C := RX10) 0 hts9 fm_823 fm_824 fm_825 fm_826 fm_469 rfl rfl ⟨by decide, by decide, by decide +kernel⟩ ⟨Nat.le_of_ble_eq_true rfl, Nat.le_of_ble_eq_true rfl⟩) (va_recv hK hPc (ci := 14) (q0 := 0) rfl rfl) hFc (fun a9 h9 => Or.inr h9) hG hS hPc hK hDc rfl hl.1 rfl (Nat.le_of_ble_eq_true rfl) dL_law_698 ⟨Nat.le_of_ble_eq_true rfl, Nat.le_of_ble_eq_true rfl⟩ (fun r_3 u_3 H locs hw hz1 hk1 hP1 hS => ?_)
      obtain ⟨hP, hD⟩ := va_join (wr := ([(o2, .inl (k 6, 1, .inr (.inr (.inr (.inl g2)))))] ++ ([(o, .inl (k 5, 1, .inr (.inl u_1)))]))) (w1 := (fz_MO q2 u_2)) hP hD [2] [0, 1] rfl rfl (by decide) (by decide) hk1 hFc hP1 hDc
      have hP : va_P D vwCl ([(o2, .inl (k 6, 1, .inr (.inr (.inr (.inl g2)))))] ++ ([(o, .inl (k 5, 1, .inr (.inl u_1)))] ++ (fz_MO q2 u_2))) H := hP
      have hD : va_D (fun q : Nat => s.heap.size ≤ q) ([(o2, .inl (k 6, 1, .inr (.inr (.inr (.inl g2)))))] ++ ([(o, .inl (k 5, 1, .inr (.inl u_1)))] ++ (fz_MO q2 u_2))) := hD
      obtain rfl : r_3 = u_2 0 := hw
      refine fz_I (y := 1) ht_2 ?_
      refine lv_iload hx hb dL_law_701 (lv_at hl 1 rfl) ?_
      refine lv_icmp_eq (tgt := 708) hx hb dL_law_703 (by decide) (fun c9 => ?_) (fun c9 => absurd (by decide) c9)
      refine lv_iload hx hb dL_law_708 (lv_at hl 1 rfl) ?_
      refine lv_if_ne (tgt := 725) hx hb dL_law_710 (by decide) (fun c9 => ?_) (fun c9 => absurd c9 (by decide))
      refine lv_goto (tgt := 2457) hx hb dL_law_725 (by decide) ?_
      exact lw_tail hL C0 (Nat.le_of_ble_eq_true rfl) (Nat.le_of_ble_eq_true rfl) hS ls (lv_sub hl [2, 7] rfl)

set_option maxHeartbeats 8000000 in
set_option maxRecDepth 100000 in
theorem lw_case7 {p : Program} {l : Launch} {e : Env} {s : State} {m : MethodId} {below : List Frame} {meth : Method} {c : Code} {D : va_G} {b L : Nat} {xs : Nat → Int32} (hl0 : l.stackTraces = false) (hL : L = 6) (C0 : lw_At p s m meth c b L xs) (hG : fz_GS (fun q : Nat => s.heap.size ≤ q) s) (k : Nat → ClassId) (hK : va_K D vwCl (fz_tys k) s) (q q2 : Nat → Nat) (f f2 : Nat → Nat → Int32) (pa pa2 : Nat → Option Nat) (v v2 : Nat → Int32) (o o2 : Nat) (g : Nat → Int64) (g2 : Nat → UInt64) (hF : fz_LF q2 f pa v f2 pa2 v2) (H : Heap) (locs : List Loc) (hP : va_P D vwCl (fz_WC k q f pa v ++ ([(o, .inl (k 5, 1, .inr (.inl g)))] ++ ([(o2, .inl (k 6, 1, .inr (.inr (.inr (.inl g2)))))] ++ (fz_WM k q2 f2 pa2 v2)))) H) (hD : va_D (fun q : Nat => s.heap.size ≤ q) (fz_WC k q f pa v ++ ([(o, .inl (k 5, 1, .inr (.inl g)))] ++ ([(o2, .inl (k 6, 1, .inr (.inr (.inr (.inl g2)))))] ++ (fz_WM k q2 f2 pa2 v2))))) (hS : va_S (fun q : Nat => s.heap.size ≤ q) s.heap H locs) (ls : Array Slot) (hl : lv_has ls 9 [(5, .int 0), (4, .ref o2), (3, .ref o), (2, .ref (q2 0)), (1, .ref (q 31)), (0, .ref b)]) :
    W p l e room_1 s m #[Value.ref b] below meth c H locs 2000 400000 (lw_Z below #[Value.ref b] s) (F0 m 728 ls []) := by
  obtain ⟨g_v_0, g_v_1, g_v_2, g_v_3, g_v_4, g_v_5, g_v_6, g_v_7, g_v_8, g_v_9, g_v_10, g_v_11, g_v_12, g_v_13, g_v_14, g_v_15, g_v_17, g_f_2_0, g_f_4_0, g_f_5_0, g_f_6_0, g_f_7_0, g_f_8_0, g_f_9_0, g_f_11_0, g_f_18_0, g_f_19_0, g_pa_0, g_pa_1, g_pa_8, n_v_0, n_v_5, n_v_6, n_v_7, n_v_8, n_v_9, n_v_10, n_v_11, n_v_12, n_v_13, n_v_15, n_v_16, n_v_17, n_v_18, n_v_19, n_v_21, n_f_1_0, n_f_1_1, n_f_1_2, n_f_1_3, n_f_1_4, n_f_1_5, n_f_1_6, n_f_1_7, n_f_1_8, n_f_1_9, n_f_1_10, n_f_1_11, n_f_1_12, n_f_1_13, n_f_1_15, n_f_1_16, n_f_1_17, n_pb_0⟩ := hF
  obtain ⟨hx, hb, hr, hml, hown, hts, hX, hbl, hlocks, hgv⟩ := id C0
  subst hL
  have hL : (6 : Nat) = 6 := rfl
  have hA : ∀ q : Nat, s.heap.size ≤ q → (fun q : Nat => s.heap.size ≤ q) q := fun _ h => h
  have hbA : ¬ (fun q : Nat => s.heap.size ≤ q) b := Nat.not_le.mpr hbl
  have hts9 := fz_hts9 hts
  have hown : s.vm.findClass RL = some m.cls := hown
  have S0 : CallFix p m c code 9 s #[Value.ref b] (Cond.initialized RL :: fz_WA) RL := ⟨hx, hb, hml, hown, hts9⟩
  obtain ⟨x1, ex1⟩ : ∃ z, z = xs 1 := ⟨_, rfl⟩
  obtain ⟨x2, ex2⟩ : ∃ z, z = xs 2 := ⟨_, rfl⟩
  obtain ⟨x3, ex3⟩ : ∃ z, z = xs 3 := ⟨_, rfl⟩
  obtain ⟨x4, ex4⟩ : ∃ z, z = xs 4 := ⟨_, rfl⟩
  obtain ⟨x5, ex5⟩ : ∃ z, z = xs 5 := ⟨_, rfl⟩
  refine lv_aload_n hx hb dL_law_728 rfl (lv_at hl 4 rfl) ?_
  refine lv_aload_n hx hb dL_law_729 rfl (lv_at hl 5 rfl) ?_
  refine lv_iload hx hb dL_law_730 (lv_at hl 0 rfl) ?_
  refine lv_iconst (v := 1) hx hb dL_law_732 (by decide) ?_
  refine lv_iadd hx hb dL_law_733 ?_
  refine fz_I (y := 1) (by decide) ?_
  refine va_sld hx hb hX hbl hbA hS (fz_vin (by decide)) dL_law_734 ?_
  refine fz_I (y := x1) ex1.symm ?_
  refine lv_aload_n hx hb dL_law_735 rfl (lv_at hl 5 rfl) ?_
  refine lv_iload hx hb dL_law_736 (lv_at hl 0 rfl) ?_
  refine lv_iconst (v := 2) hx hb dL_law_738 (by decide) ?_
  refine lv_iadd hx hb dL_law_739 ?_
  refine fz_I (y := 2) (by decide) ?_
  refine va_sld hx hb hX hbl hbA hS (fz_vin (by decide)) dL_law_740 ?_
  refine fz_I (y := x2) ex2.symm ?_
  refine lv_aload_n hx hb dL_law_741 rfl (lv_at hl 2 rfl) ?_
  have hPc := hP.sub (ws' := (fz_WC k q f pa v ++ ([(o, .inl (k 5, 1, .inr (.inl g)))]))) [0, 1, 2, 3, 4, 5, 6, 7, 8, 9, 10, 11, 12, 13, 14, 15, 16, 17, 18, 19, 20, 21, 22, 23, 24, 25, 26, 27, 28, 29, 30, 31, 32, 33, 34, 35, 36, 37, 38] rfl
  have hDc : va_D (va_A (fz_WC k q f pa v ++ ([(o, .inl (k 5, 1, .inr (.inl g)))])) H.size) (fz_WC k q f pa v ++ ([(o, .inl (k 5, 1, .inr (.inl g)))])) := (hD.sub (ws' := (fz_WC k q f pa v ++ ([(o, .inl (k 5, 1, .inr (.inl g)))]))) [0, 1, 2, 3, 4, 5, 6, 7, 8, 9, 10, 11, 12, 13, 14, 15, 16, 17, 18, 19, 20, 21, 22, 23, 24, 25, 26, 27, 28, 29, 30, 31, 32, 33, 34, 35, 36, 37, 38] (by decide) rfl).self
  have hFc := va_free (wc := (fz_WC k q f pa v ++ ([(o, .inl (k 5, 1, .inr (.inl g)))]))) hD hS hA [0, 1, 2, 3, 4, 5, 6, 7, 8, 9, 10, 11, 12, 13, 14, 15, 16, 17, 18, 19, 20, 21, 22, 23, 24, 25, 26, 27, 28, 29, 30, 31, 32, 33, 34, 35, 36, 37, 38] rfl
  refine fz_hSi (As := [.ref (q 31), .int x1, .int x2, .ref o]) (rest := []) S0 (h_restriction l hl0 (va_A (fz_WC k q f pa v ++ ([(o, .inl (k 5, 1, .inr (.inl g)))])) H.size) D k q f pa v o g x1 x2 g_v_1 g_f_4_0 g_f_11_0 g_f_5_0 g_v_2 g_f_6_0 g_f_2_0 g_f_9_0) (vx_cwSW 4 hts9 (fz_gSW fm_687 fm_863 fm_864 fm_816) rfl rfl rfl ⟨by decide, by decide, by decide +kernel⟩ ⟨Nat.le_of_ble_eq_true rfl, Nat.le_of_ble_eq_true rfl⟩) hFc (fun a9 h9 => Or.inr h9) hG hS hPc hK hDc rfl hl.1 rfl (Nat.le_of_ble_eq_true rfl) dL_law_742 ⟨Nat.le_of_ble_eq_true rfl, Nat.le_of_ble_eq_true rfl⟩ (fun r_1 u_1 H locs hw hz1 hk1 hP1 hS => ?_)
  obtain ⟨hP, hD⟩ := va_join (wr := ([(o2, .inl (k 6, 1, .inr (.inr (.inr (.inl g2)))))] ++ (fz_WM k q2 f2 pa2 v2))) (w1 := ([(o, .inl (k 5, 1, .inr (.inl u_1)))])) hP hD [0, 1, 2, 3, 4, 5, 6, 7, 8, 9, 10, 11, 12, 13, 14, 15, 16, 17, 18, 19, 20, 21, 22, 23, 24, 25, 26, 27, 28, 29, 30, 31, 32, 33, 34, 35, 36, 37, 38] [39, 40, 41, 42, 43, 44, 45, 46, 47] rfl rfl (by decide) (by decide) hk1 hFc hP1 (fz_Dsame (hDc.sub (ws' := [(o, .inl (k 5, 1, .inr (.inl g)))]) [38] (by decide) rfl) rfl)
  have hP : va_P D vwCl ([(o2, .inl (k 6, 1, .inr (.inr (.inr (.inl g2)))))] ++ (fz_WM k q2 f2 pa2 v2 ++ ([(o, .inl (k 5, 1, .inr (.inl u_1)))]))) H := hP
  have hD : va_D (fun q : Nat => s.heap.size ≤ q) ([(o2, .inl (k 6, 1, .inr (.inr (.inr (.inl g2)))))] ++ (fz_WM k q2 f2 pa2 v2 ++ ([(o, .inl (k 5, 1, .inr (.inl u_1)))]))) := hD
  rcases hw with ⟨rfl, hu_1, hc_1⟩ | ⟨rfl, hu_1, hc_1⟩ | ⟨rfl, hc_1⟩ | ⟨rfl, hc_1⟩
  · skip
    obtain rfl : x1 = 0 := (fq_138 x1 x2 hc_1)
    obtain rfl : x2 = 0 := (fq_139 x2 hc_1)
    refine lv_istore (lv' := [(6, .int 0), (5, .int 0), (4, .ref o2), (3, .ref o), (2, .ref (q2 0)), (1, .ref (q 31)), (0, .ref b)]) hx hb dL_law_745 hl (by decide) rfl (fun ls hl => ?_)
    refine lv_aload_n hx hb dL_law_747 rfl (lv_at hl 4 rfl) ?_
    refine lv_aload_n hx hb dL_law_748 rfl (lv_at hl 6 rfl) ?_
    refine lv_iload hx hb dL_law_749 (lv_at hl 1 rfl) ?_
    refine lv_iconst (v := 1) hx hb dL_law_751 (by decide) ?_
    refine lv_iadd hx hb dL_law_752 ?_
    refine fz_I (y := 1) (by decide) ?_
    refine va_sld hx hb hX hbl hbA hS (fz_vin (by decide)) dL_law_753 ?_
    refine fz_I (y := 0) ex1.symm ?_
    refine lv_aload_n hx hb dL_law_754 rfl (lv_at hl 6 rfl) ?_
    refine lv_iload hx hb dL_law_755 (lv_at hl 1 rfl) ?_
    refine lv_iconst (v := 2) hx hb dL_law_757 (by decide) ?_
    refine lv_iadd hx hb dL_law_758 ?_
    refine fz_I (y := 2) (by decide) ?_
    refine va_sld hx hb hX hbl hbA hS (fz_vin (by decide)) dL_law_759 ?_
    refine fz_I (y := 0) ex2.symm ?_
    have hPc := hP.sub (ws' := (fz_WM k q2 f2 pa2 v2)) [1, 2, 3, 4, 5, 6, 7, 8] rfl
    have hDc : va_D (va_A (fz_WM k q2 f2 pa2 v2) H.size) (fz_WM k q2 f2 pa2 v2) := (hD.sub (ws' := (fz_WM k q2 f2 pa2 v2)) [1, 2, 3, 4, 5, 6, 7, 8] (by decide) rfl).self
    have hFc := va_free (wc := (fz_WM k q2 f2 pa2 v2)) hD hS hA [1, 2, 3, 4, 5, 6, 7, 8] rfl
    refine fz_cVi (As := [.int 0, .int 0]) (rest := []) S0 (m_p_restriction l (va_A (fz_WM k q2 f2 pa2 v2) H.size) D k q2 f2 pa2 v2 0 0 n_f_1_0 n_f_1_7 n_f_1_9 n_f_1_13 n_f_1_12) (fz_cwV (C := RX10) 2 hts9 fm_865 fm_866 fm_867 fm_868 fm_469 rfl rfl ⟨by decide, by decide, by decide +kernel⟩ ⟨Nat.le_of_ble_eq_true rfl, Nat.le_of_ble_eq_true rfl⟩) (va_recv hK hPc (ci := 14) (q0 := 0) rfl rfl) hFc (fun a9 h9 => Or.inr h9) hG hS hPc hK hDc rfl hl.1 rfl (Nat.le_of_ble_eq_true rfl) dL_law_760 ⟨Nat.le_of_ble_eq_true rfl, Nat.le_of_ble_eq_true rfl⟩ (fun r_2 u_2 H locs hw hz1 hk1 hP1 hS => ?_)
    obtain ⟨hP, hD⟩ := va_join (wr := ([(o2, .inl (k 6, 1, .inr (.inr (.inr (.inl g2)))))] ++ ([(o, .inl (k 5, 1, .inr (.inl u_1)))]))) (w1 := (fz_MO q2 u_2)) hP hD [1, 2, 3, 4, 5, 6, 7, 8] [0, 9] rfl rfl (by decide) (by decide) hk1 hFc hP1 (fz_Dsame (hDc.sub (ws' := fz_MO q2 v2) [0] (by decide) rfl) rfl)
    have hP : va_P D vwCl ([(o2, .inl (k 6, 1, .inr (.inr (.inr (.inl g2)))))] ++ ([(o, .inl (k 5, 1, .inr (.inl u_1)))] ++ (fz_MO q2 u_2))) H := hP
    have hD : va_D (fun q : Nat => s.heap.size ≤ q) ([(o2, .inl (k 6, 1, .inr (.inr (.inr (.inl g2)))))] ++ ([(o, .inl (k 5, 1, .inr (.inl u_1)))] ++ (fz_MO q2 u_2))) := hD
    rcases hw with ⟨rfl, ht_2, hc_2⟩ | ⟨rfl, ht_2, hc_2⟩ | ⟨rfl, ht_2, hc_2⟩ | ⟨rfl, ht_2, hc_2⟩
    · skip
      exact (fq_112 hc_2).elim
    · skip
      exact (fq_221 hc_2).elim
    · skip
      refine lv_istore (lv' := [(7, .int 0), (6, .int 0), (5, .int 0), (4, .ref o2), (3, .ref o), (2, .ref (q2 0)), (1, .ref (q 31)), (0, .ref b)]) hx hb dL_law_763 hl (by decide) rfl (fun ls hl => ?_)
      refine lv_aload_n hx hb dL_law_765 rfl (lv_at hl 5 rfl) ?_
      have hPc := hP.sub (ws' := (fz_MO q2 u_2)) [2] rfl
      have hDc : va_D (va_A (fz_MO q2 u_2) H.size) (fz_MO q2 u_2) := (hD.sub (ws' := (fz_MO q2 u_2)) [2] (by decide) rfl).self
      have hFc := va_free (wc := (fz_MO q2 u_2)) hD hS hA [2] rfl
      refine fz_cVi (As := []) (rest := []) S0 (m_thrown l (va_A (fz_MO q2 u_2) H.size) D k q2 u_2) (fz_cwV (C := RX10) 0 hts9 fm_823 fm_824 fm_825 fm_826 fm_469 rfl rfl ⟨by decide, by decide, by decide +kernel⟩ ⟨Nat.le_of_ble_eq_true rfl, Nat.le_of_ble_eq_true rfl⟩) (va_recv hK hPc (ci := 14) (q0 := 0) rfl rfl) hFc (fun a9 h9 => Or.inr h9) hG hS hPc hK hDc rfl hl.1 rfl (Nat.le_of_ble_eq_true rfl) dL_law_766 ⟨Nat.le_of_ble_eq_true rfl, Nat.le_of_ble_eq_true rfl⟩ (fun r_3 u_3 H locs hw hz1 hk1 hP1 hS => ?_)
      obtain ⟨hP, hD⟩ := va_join (wr := ([(o2, .inl (k 6, 1, .inr (.inr (.inr (.inl g2)))))] ++ ([(o, .inl (k 5, 1, .inr (.inl u_1)))]))) (w1 := (fz_MO q2 u_2)) hP hD [2] [0, 1] rfl rfl (by decide) (by decide) hk1 hFc hP1 hDc
      have hP : va_P D vwCl ([(o2, .inl (k 6, 1, .inr (.inr (.inr (.inl g2)))))] ++ ([(o, .inl (k 5, 1, .inr (.inl u_1)))] ++ (fz_MO q2 u_2))) H := hP
      have hD : va_D (fun q : Nat => s.heap.size ≤ q) ([(o2, .inl (k 6, 1, .inr (.inr (.inr (.inl g2)))))] ++ ([(o, .inl (k 5, 1, .inr (.inl u_1)))] ++ (fz_MO q2 u_2))) := hD
      obtain rfl : r_3 = u_2 0 := hw
      refine fz_I (y := 0) ht_2 ?_
      refine lv_iload hx hb dL_law_769 (lv_at hl 1 rfl) ?_
      refine lv_icmp_eq (tgt := 776) hx hb dL_law_771 (by decide) (fun c9 => ?_) (fun c9 => absurd (by decide) c9)
      refine lv_iload hx hb dL_law_776 (lv_at hl 1 rfl) ?_
      refine lv_if_ne (tgt := 793) hx hb dL_law_778 (by decide) (fun c9 => absurd (by decide) c9) (fun c9 => ?_)
      refine lv_aload_n hx hb dL_law_781 rfl (lv_at hl 4 rfl) ?_
      refine lv_iconst (v := 0) hx hb dL_law_782 (by decide) ?_
      refine va_lald hx hb hK hP 1 5 rfl rfl (fz_vin (by decide)) dL_law_783 ?_
      refine fz_V (y := .long ((0 : Int32).toInt64)) (congrArg Value.long hu_1) ?_
      refine lv_iload hx hb dL_law_784 (lv_at hl 0 rfl) ?_
      refine lv_i2l (v := (0 : Int32).toInt64) hx hb dL_law_786 rfl ?_
      refine W.lcmp hx hb dL_law_787 ?_
      refine fz_I (y := 0) (by decide) ?_
      refine lv_if_eq (tgt := 793) hx hb dL_law_788 (by decide) (fun c9 => ?_) (fun c9 => absurd (by decide) c9)
      refine lv_goto (tgt := 2457) hx hb dL_law_793 (by decide) ?_
      exact lw_tail hL C0 (Nat.le_of_ble_eq_true rfl) (Nat.le_of_ble_eq_true rfl) hS ls (lv_sub hl [2, 7] rfl)
    · skip
      exact (fq_222 hc_2).elim
  · skip
    obtain rfl : x1 = 0 := (fq_223 x1 x2 hc_1)
    refine lv_istore (lv' := [(6, .int 0), (5, .int 0), (4, .ref o2), (3, .ref o), (2, .ref (q2 0)), (1, .ref (q 31)), (0, .ref b)]) hx hb dL_law_745 hl (by decide) rfl (fun ls hl => ?_)
    refine lv_aload_n hx hb dL_law_747 rfl (lv_at hl 4 rfl) ?_
    refine lv_aload_n hx hb dL_law_748 rfl (lv_at hl 6 rfl) ?_
    refine lv_iload hx hb dL_law_749 (lv_at hl 1 rfl) ?_
    refine lv_iconst (v := 1) hx hb dL_law_751 (by decide) ?_
    refine lv_iadd hx hb dL_law_752 ?_
    refine fz_I (y := 1) (by decide) ?_
    refine va_sld hx hb hX hbl hbA hS (fz_vin (by decide)) dL_law_753 ?_
    refine fz_I (y := 0) ex1.symm ?_
    refine lv_aload_n hx hb dL_law_754 rfl (lv_at hl 6 rfl) ?_
    refine lv_iload hx hb dL_law_755 (lv_at hl 1 rfl) ?_
    refine lv_iconst (v := 2) hx hb dL_law_757 (by decide) ?_
    refine lv_iadd hx hb dL_law_758 ?_
    refine fz_I (y := 2) (by decide) ?_
    refine va_sld hx hb hX hbl hbA hS (fz_vin (by decide)) dL_law_759 ?_
    refine fz_I (y := x2) ex2.symm ?_
    have hPc := hP.sub (ws' := (fz_WM k q2 f2 pa2 v2)) [1, 2, 3, 4, 5, 6, 7, 8] rfl
    have hDc : va_D (va_A (fz_WM k q2 f2 pa2 v2) H.size) (fz_WM k q2 f2 pa2 v2) := (hD.sub (ws' := (fz_WM k q2 f2 pa2 v2)) [1, 2, 3, 4, 5, 6, 7, 8] (by decide) rfl).self
    have hFc := va_free (wc := (fz_WM k q2 f2 pa2 v2)) hD hS hA [1, 2, 3, 4, 5, 6, 7, 8] rfl
    refine fz_cVi (As := [.int 0, .int x2]) (rest := []) S0 (m_p_restriction l (va_A (fz_WM k q2 f2 pa2 v2) H.size) D k q2 f2 pa2 v2 0 x2 n_f_1_0 n_f_1_7 n_f_1_9 n_f_1_13 n_f_1_12) (fz_cwV (C := RX10) 2 hts9 fm_865 fm_866 fm_867 fm_868 fm_469 rfl rfl ⟨by decide, by decide, by decide +kernel⟩ ⟨Nat.le_of_ble_eq_true rfl, Nat.le_of_ble_eq_true rfl⟩) (va_recv hK hPc (ci := 14) (q0 := 0) rfl rfl) hFc (fun a9 h9 => Or.inr h9) hG hS hPc hK hDc rfl hl.1 rfl (Nat.le_of_ble_eq_true rfl) dL_law_760 ⟨Nat.le_of_ble_eq_true rfl, Nat.le_of_ble_eq_true rfl⟩ (fun r_2 u_2 H locs hw hz1 hk1 hP1 hS => ?_)
    obtain ⟨hP, hD⟩ := va_join (wr := ([(o2, .inl (k 6, 1, .inr (.inr (.inr (.inl g2)))))] ++ ([(o, .inl (k 5, 1, .inr (.inl u_1)))]))) (w1 := (fz_MO q2 u_2)) hP hD [1, 2, 3, 4, 5, 6, 7, 8] [0, 9] rfl rfl (by decide) (by decide) hk1 hFc hP1 (fz_Dsame (hDc.sub (ws' := fz_MO q2 v2) [0] (by decide) rfl) rfl)
    have hP : va_P D vwCl ([(o2, .inl (k 6, 1, .inr (.inr (.inr (.inl g2)))))] ++ ([(o, .inl (k 5, 1, .inr (.inl u_1)))] ++ (fz_MO q2 u_2))) H := hP
    have hD : va_D (fun q : Nat => s.heap.size ≤ q) ([(o2, .inl (k 6, 1, .inr (.inr (.inr (.inl g2)))))] ++ ([(o, .inl (k 5, 1, .inr (.inl u_1)))] ++ (fz_MO q2 u_2))) := hD
    rcases hw with ⟨rfl, ht_2, hc_2⟩ | ⟨rfl, ht_2, hc_2⟩ | ⟨rfl, ht_2, hc_2⟩ | ⟨rfl, ht_2, hc_2⟩
    · skip
      exact (fq_112 hc_2).elim
    · skip
      exact (fq_224 x2 hc_1 hc_2).elim
    · skip
      exact (fq_225 x2 hc_1 hc_2).elim
    · skip
      refine lv_istore (lv' := [(7, .int (-1)), (6, .int 0), (5, .int 0), (4, .ref o2), (3, .ref o), (2, .ref (q2 0)), (1, .ref (q 31)), (0, .ref b)]) hx hb dL_law_763 hl (by decide) rfl (fun ls hl => ?_)
      refine lv_aload_n hx hb dL_law_765 rfl (lv_at hl 5 rfl) ?_
      have hPc := hP.sub (ws' := (fz_MO q2 u_2)) [2] rfl
      have hDc : va_D (va_A (fz_MO q2 u_2) H.size) (fz_MO q2 u_2) := (hD.sub (ws' := (fz_MO q2 u_2)) [2] (by decide) rfl).self
      have hFc := va_free (wc := (fz_MO q2 u_2)) hD hS hA [2] rfl
      refine fz_cVi (As := []) (rest := []) S0 (m_thrown l (va_A (fz_MO q2 u_2) H.size) D k q2 u_2) (fz_cwV (C := RX10) 0 hts9 fm_823 fm_824 fm_825 fm_826 fm_469 rfl rfl ⟨by decide, by decide, by decide +kernel⟩ ⟨Nat.le_of_ble_eq_true rfl, Nat.le_of_ble_eq_true rfl⟩) (va_recv hK hPc (ci := 14) (q0 := 0) rfl rfl) hFc (fun a9 h9 => Or.inr h9) hG hS hPc hK hDc rfl hl.1 rfl (Nat.le_of_ble_eq_true rfl) dL_law_766 ⟨Nat.le_of_ble_eq_true rfl, Nat.le_of_ble_eq_true rfl⟩ (fun r_3 u_3 H locs hw hz1 hk1 hP1 hS => ?_)
      obtain ⟨hP, hD⟩ := va_join (wr := ([(o2, .inl (k 6, 1, .inr (.inr (.inr (.inl g2)))))] ++ ([(o, .inl (k 5, 1, .inr (.inl u_1)))]))) (w1 := (fz_MO q2 u_2)) hP hD [2] [0, 1] rfl rfl (by decide) (by decide) hk1 hFc hP1 hDc
      have hP : va_P D vwCl ([(o2, .inl (k 6, 1, .inr (.inr (.inr (.inl g2)))))] ++ ([(o, .inl (k 5, 1, .inr (.inl u_1)))] ++ (fz_MO q2 u_2))) H := hP
      have hD : va_D (fun q : Nat => s.heap.size ≤ q) ([(o2, .inl (k 6, 1, .inr (.inr (.inr (.inl g2)))))] ++ ([(o, .inl (k 5, 1, .inr (.inl u_1)))] ++ (fz_MO q2 u_2))) := hD
      obtain rfl : r_3 = u_2 0 := hw
      refine fz_I (y := 0) ht_2 ?_
      refine lv_iload hx hb dL_law_769 (lv_at hl 1 rfl) ?_
      refine lv_icmp_eq (tgt := 776) hx hb dL_law_771 (by decide) (fun c9 => ?_) (fun c9 => absurd (by decide) c9)
      refine lv_iload hx hb dL_law_776 (lv_at hl 1 rfl) ?_
      refine lv_if_ne (tgt := 793) hx hb dL_law_778 (by decide) (fun c9 => absurd (by decide) c9) (fun c9 => ?_)
      refine lv_aload_n hx hb dL_law_781 rfl (lv_at hl 4 rfl) ?_
      refine lv_iconst (v := 0) hx hb dL_law_782 (by decide) ?_
      refine va_lald hx hb hK hP 1 5 rfl rfl (fz_vin (by decide)) dL_law_783 ?_
      refine fz_V (y := .long (((-1) : Int32).toInt64)) (congrArg Value.long hu_1) ?_
      refine lv_iload hx hb dL_law_784 (lv_at hl 0 rfl) ?_
      refine lv_i2l (v := ((-1) : Int32).toInt64) hx hb dL_law_786 rfl ?_
      refine W.lcmp hx hb dL_law_787 ?_
      refine fz_I (y := 0) (by decide) ?_
      refine lv_if_eq (tgt := 793) hx hb dL_law_788 (by decide) (fun c9 => ?_) (fun c9 => absurd (by decide) c9)
      refine lv_goto (tgt := 2457) hx hb dL_law_793 (by decide) ?_
      exact lw_tail hL C0 (Nat.le_of_ble_eq_true rfl) (Nat.le_of_ble_eq_true rfl) hS ls (lv_sub hl [2, 7] rfl)
  · skip
    refine lv_istore (lv' := [(6, .int 1), (5, .int 0), (4, .ref o2), (3, .ref o), (2, .ref (q2 0)), (1, .ref (q 31)), (0, .ref b)]) hx hb dL_law_745 hl (by decide) rfl (fun ls hl => ?_)
    refine lv_aload_n hx hb dL_law_747 rfl (lv_at hl 4 rfl) ?_
    refine lv_aload_n hx hb dL_law_748 rfl (lv_at hl 6 rfl) ?_
    refine lv_iload hx hb dL_law_749 (lv_at hl 1 rfl) ?_
    refine lv_iconst (v := 1) hx hb dL_law_751 (by decide) ?_
    refine lv_iadd hx hb dL_law_752 ?_
    refine fz_I (y := 1) (by decide) ?_
    refine va_sld hx hb hX hbl hbA hS (fz_vin (by decide)) dL_law_753 ?_
    refine fz_I (y := x1) ex1.symm ?_
    refine lv_aload_n hx hb dL_law_754 rfl (lv_at hl 6 rfl) ?_
    refine lv_iload hx hb dL_law_755 (lv_at hl 1 rfl) ?_
    refine lv_iconst (v := 2) hx hb dL_law_757 (by decide) ?_
    refine lv_iadd hx hb dL_law_758 ?_
    refine fz_I (y := 2) (by decide) ?_
    refine va_sld hx hb hX hbl hbA hS (fz_vin (by decide)) dL_law_759 ?_
    refine fz_I (y := x2) ex2.symm ?_
    have hPc := hP.sub (ws' := (fz_WM k q2 f2 pa2 v2)) [1, 2, 3, 4, 5, 6, 7, 8] rfl
    have hDc : va_D (va_A (fz_WM k q2 f2 pa2 v2) H.size) (fz_WM k q2 f2 pa2 v2) := (hD.sub (ws' := (fz_WM k q2 f2 pa2 v2)) [1, 2, 3, 4, 5, 6, 7, 8] (by decide) rfl).self
    have hFc := va_free (wc := (fz_WM k q2 f2 pa2 v2)) hD hS hA [1, 2, 3, 4, 5, 6, 7, 8] rfl
    refine fz_cVi (As := [.int x1, .int x2]) (rest := []) S0 (m_p_restriction l (va_A (fz_WM k q2 f2 pa2 v2) H.size) D k q2 f2 pa2 v2 x1 x2 n_f_1_0 n_f_1_7 n_f_1_9 n_f_1_13 n_f_1_12) (fz_cwV (C := RX10) 2 hts9 fm_865 fm_866 fm_867 fm_868 fm_469 rfl rfl ⟨by decide, by decide, by decide +kernel⟩ ⟨Nat.le_of_ble_eq_true rfl, Nat.le_of_ble_eq_true rfl⟩) (va_recv hK hPc (ci := 14) (q0 := 0) rfl rfl) hFc (fun a9 h9 => Or.inr h9) hG hS hPc hK hDc rfl hl.1 rfl (Nat.le_of_ble_eq_true rfl) dL_law_760 ⟨Nat.le_of_ble_eq_true rfl, Nat.le_of_ble_eq_true rfl⟩ (fun r_2 u_2 H locs hw hz1 hk1 hP1 hS => ?_)
    obtain ⟨hP, hD⟩ := va_join (wr := ([(o2, .inl (k 6, 1, .inr (.inr (.inr (.inl g2)))))] ++ ([(o, .inl (k 5, 1, .inr (.inl u_1)))]))) (w1 := (fz_MO q2 u_2)) hP hD [1, 2, 3, 4, 5, 6, 7, 8] [0, 9] rfl rfl (by decide) (by decide) hk1 hFc hP1 (fz_Dsame (hDc.sub (ws' := fz_MO q2 v2) [0] (by decide) rfl) rfl)
    have hP : va_P D vwCl ([(o2, .inl (k 6, 1, .inr (.inr (.inr (.inl g2)))))] ++ ([(o, .inl (k 5, 1, .inr (.inl u_1)))] ++ (fz_MO q2 u_2))) H := hP
    have hD : va_D (fun q : Nat => s.heap.size ≤ q) ([(o2, .inl (k 6, 1, .inr (.inr (.inr (.inl g2)))))] ++ ([(o, .inl (k 5, 1, .inr (.inl u_1)))] ++ (fz_MO q2 u_2))) := hD
    rcases hw with ⟨rfl, ht_2, hc_2⟩ | ⟨rfl, ht_2, hc_2⟩ | ⟨rfl, ht_2, hc_2⟩ | ⟨rfl, ht_2, hc_2⟩
    · skip
      refine lv_istore (lv' := [(7, .int 0), (6, .int 1), (5, .int 0), (4, .ref o2), (3, .ref o), (2, .ref (q2 0)), (1, .ref (q 31)), (0, .ref b)]) hx hb dL_law_763 hl (by decide) rfl (fun ls hl => ?_)
      refine lv_aload_n hx hb dL_law_765 rfl (lv_at hl 5 rfl) ?_
      have hPc := hP.sub (ws' := (fz_MO q2 u_2)) [2] rfl
      have hDc : va_D (va_A (fz_MO q2 u_2) H.size) (fz_MO q2 u_2) := (hD.sub (ws' := (fz_MO q2 u_2)) [2] (by decide) rfl).self
      have hFc := va_free (wc := (fz_MO q2 u_2)) hD hS hA [2] rfl
      refine fz_cVi (As := []) (rest := []) S0 (m_thrown l (va_A (fz_MO q2 u_2) H.size) D k q2 u_2) (fz_cwV (C := RX10) 0 hts9 fm_823 fm_824 fm_825 fm_826 fm_469 rfl rfl ⟨by decide, by decide, by decide +kernel⟩ ⟨Nat.le_of_ble_eq_true rfl, Nat.le_of_ble_eq_true rfl⟩) (va_recv hK hPc (ci := 14) (q0 := 0) rfl rfl) hFc (fun a9 h9 => Or.inr h9) hG hS hPc hK hDc rfl hl.1 rfl (Nat.le_of_ble_eq_true rfl) dL_law_766 ⟨Nat.le_of_ble_eq_true rfl, Nat.le_of_ble_eq_true rfl⟩ (fun r_3 u_3 H locs hw hz1 hk1 hP1 hS => ?_)
      obtain ⟨hP, hD⟩ := va_join (wr := ([(o2, .inl (k 6, 1, .inr (.inr (.inr (.inl g2)))))] ++ ([(o, .inl (k 5, 1, .inr (.inl u_1)))]))) (w1 := (fz_MO q2 u_2)) hP hD [2] [0, 1] rfl rfl (by decide) (by decide) hk1 hFc hP1 hDc
      have hP : va_P D vwCl ([(o2, .inl (k 6, 1, .inr (.inr (.inr (.inl g2)))))] ++ ([(o, .inl (k 5, 1, .inr (.inl u_1)))] ++ (fz_MO q2 u_2))) H := hP
      have hD : va_D (fun q : Nat => s.heap.size ≤ q) ([(o2, .inl (k 6, 1, .inr (.inr (.inr (.inl g2)))))] ++ ([(o, .inl (k 5, 1, .inr (.inl u_1)))] ++ (fz_MO q2 u_2))) := hD
      obtain rfl : r_3 = u_2 0 := hw
      refine fz_I (y := 1) ht_2 ?_
      refine lv_iload hx hb dL_law_769 (lv_at hl 1 rfl) ?_
      refine lv_icmp_eq (tgt := 776) hx hb dL_law_771 (by decide) (fun c9 => ?_) (fun c9 => absurd (by decide) c9)
      refine lv_iload hx hb dL_law_776 (lv_at hl 1 rfl) ?_
      refine lv_if_ne (tgt := 793) hx hb dL_law_778 (by decide) (fun c9 => ?_) (fun c9 => absurd c9 (by decide))
      refine lv_goto (tgt := 2457) hx hb dL_law_793 (by decide) ?_
      exact lw_tail hL C0 (Nat.le_of_ble_eq_true rfl) (Nat.le_of_ble_eq_true rfl) hS ls (lv_sub hl [2, 7] rfl)
    · skip
      exact (fq_226 x1 x2 hc_1 hc_2).elim
    · skip
      exact (fq_200 x1 x2 hc_1 hc_2).elim
    · skip
      exact (fq_227 x1 x2 hc_1 hc_2).elim
  · skip
    obtain rfl : x1 = 0 := (fq_228 x1 x2 hc_1)
    refine lv_istore (lv' := [(6, .int 2), (5, .int 0), (4, .ref o2), (3, .ref o), (2, .ref (q2 0)), (1, .ref (q 31)), (0, .ref b)]) hx hb dL_law_745 hl (by decide) rfl (fun ls hl => ?_)
    refine lv_aload_n hx hb dL_law_747 rfl (lv_at hl 4 rfl) ?_
    refine lv_aload_n hx hb dL_law_748 rfl (lv_at hl 6 rfl) ?_
    refine lv_iload hx hb dL_law_749 (lv_at hl 1 rfl) ?_
    refine lv_iconst (v := 1) hx hb dL_law_751 (by decide) ?_
    refine lv_iadd hx hb dL_law_752 ?_
    refine fz_I (y := 1) (by decide) ?_
    refine va_sld hx hb hX hbl hbA hS (fz_vin (by decide)) dL_law_753 ?_
    refine fz_I (y := 0) ex1.symm ?_
    refine lv_aload_n hx hb dL_law_754 rfl (lv_at hl 6 rfl) ?_
    refine lv_iload hx hb dL_law_755 (lv_at hl 1 rfl) ?_
    refine lv_iconst (v := 2) hx hb dL_law_757 (by decide) ?_
    refine lv_iadd hx hb dL_law_758 ?_
    refine fz_I (y := 2) (by decide) ?_
    refine va_sld hx hb hX hbl hbA hS (fz_vin (by decide)) dL_law_759 ?_
    refine fz_I (y := x2) ex2.symm ?_
    have hPc := hP.sub (ws' := (fz_WM k q2 f2 pa2 v2)) [1, 2, 3, 4, 5, 6, 7, 8] rfl
    have hDc : va_D (va_A (fz_WM k q2 f2 pa2 v2) H.size) (fz_WM k q2 f2 pa2 v2) := (hD.sub (ws' := (fz_WM k q2 f2 pa2 v2)) [1, 2, 3, 4, 5, 6, 7, 8] (by decide) rfl).self
    have hFc := va_free (wc := (fz_WM k q2 f2 pa2 v2)) hD hS hA [1, 2, 3, 4, 5, 6, 7, 8] rfl
    refine fz_cVi (As := [.int 0, .int x2]) (rest := []) S0 (m_p_restriction l (va_A (fz_WM k q2 f2 pa2 v2) H.size) D k q2 f2 pa2 v2 0 x2 n_f_1_0 n_f_1_7 n_f_1_9 n_f_1_13 n_f_1_12) (fz_cwV (C := RX10) 2 hts9 fm_865 fm_866 fm_867 fm_868 fm_469 rfl rfl ⟨by decide, by decide, by decide +kernel⟩ ⟨Nat.le_of_ble_eq_true rfl, Nat.le_of_ble_eq_true rfl⟩) (va_recv hK hPc (ci := 14) (q0 := 0) rfl rfl) hFc (fun a9 h9 => Or.inr h9) hG hS hPc hK hDc rfl hl.1 rfl (Nat.le_of_ble_eq_true rfl) dL_law_760 ⟨Nat.le_of_ble_eq_true rfl, Nat.le_of_ble_eq_true rfl⟩ (fun r_2 u_2 H locs hw hz1 hk1 hP1 hS => ?_)
    obtain ⟨hP, hD⟩ := va_join (wr := ([(o2, .inl (k 6, 1, .inr (.inr (.inr (.inl g2)))))] ++ ([(o, .inl (k 5, 1, .inr (.inl u_1)))]))) (w1 := (fz_MO q2 u_2)) hP hD [1, 2, 3, 4, 5, 6, 7, 8] [0, 9] rfl rfl (by decide) (by decide) hk1 hFc hP1 (fz_Dsame (hDc.sub (ws' := fz_MO q2 v2) [0] (by decide) rfl) rfl)
    have hP : va_P D vwCl ([(o2, .inl (k 6, 1, .inr (.inr (.inr (.inl g2)))))] ++ ([(o, .inl (k 5, 1, .inr (.inl u_1)))] ++ (fz_MO q2 u_2))) H := hP
    have hD : va_D (fun q : Nat => s.heap.size ≤ q) ([(o2, .inl (k 6, 1, .inr (.inr (.inr (.inl g2)))))] ++ ([(o, .inl (k 5, 1, .inr (.inl u_1)))] ++ (fz_MO q2 u_2))) := hD
    rcases hw with ⟨rfl, ht_2, hc_2⟩ | ⟨rfl, ht_2, hc_2⟩ | ⟨rfl, ht_2, hc_2⟩ | ⟨rfl, ht_2, hc_2⟩
    · skip
      exact (fq_112 hc_2).elim
    · skip
      refine lv_istore (lv' := [(7, .int 0), (6, .int 2), (5, .int 0), (4, .ref o2), (3, .ref o), (2, .ref (q2 0)), (1, .ref (q 31)), (0, .ref b)]) hx hb dL_law_763 hl (by decide) rfl (fun ls hl => ?_)
      refine lv_aload_n hx hb dL_law_765 rfl (lv_at hl 5 rfl) ?_
      have hPc := hP.sub (ws' := (fz_MO q2 u_2)) [2] rfl
      have hDc : va_D (va_A (fz_MO q2 u_2) H.size) (fz_MO q2 u_2) := (hD.sub (ws' := (fz_MO q2 u_2)) [2] (by decide) rfl).self
      have hFc := va_free (wc := (fz_MO q2 u_2)) hD hS hA [2] rfl
      refine fz_cVi (As := []) (rest := []) S0 (m_thrown l (va_A (fz_MO q2 u_2) H.size) D k q2 u_2) (fz_cwV (C := RX10) 0 hts9 fm_823 fm_824 fm_825 fm_826 fm_469 rfl rfl ⟨by decide, by decide, by decide +kernel⟩ ⟨Nat.le_of_ble_eq_true rfl, Nat.le_of_ble_eq_true rfl⟩) (va_recv hK hPc (ci := 14) (q0 := 0) rfl rfl) hFc (fun a9 h9 => Or.inr h9) hG hS hPc hK hDc rfl hl.1 rfl (Nat.le_of_ble_eq_true rfl) dL_law_766 ⟨Nat.le_of_ble_eq_true rfl, Nat.le_of_ble_eq_true rfl⟩ (fun r_3 u_3 H locs hw hz1 hk1 hP1 hS => ?_)
      obtain ⟨hP, hD⟩ := va_join (wr := ([(o2, .inl (k 6, 1, .inr (.inr (.inr (.inl g2)))))] ++ ([(o, .inl (k 5, 1, .inr (.inl u_1)))]))) (w1 := (fz_MO q2 u_2)) hP hD [2] [0, 1] rfl rfl (by decide) (by decide) hk1 hFc hP1 hDc
      have hP : va_P D vwCl ([(o2, .inl (k 6, 1, .inr (.inr (.inr (.inl g2)))))] ++ ([(o, .inl (k 5, 1, .inr (.inl u_1)))] ++ (fz_MO q2 u_2))) H := hP
      have hD : va_D (fun q : Nat => s.heap.size ≤ q) ([(o2, .inl (k 6, 1, .inr (.inr (.inr (.inl g2)))))] ++ ([(o, .inl (k 5, 1, .inr (.inl u_1)))] ++ (fz_MO q2 u_2))) := hD
      obtain rfl : r_3 = u_2 0 := hw
      refine fz_I (y := 2) ht_2 ?_
      refine lv_iload hx hb dL_law_769 (lv_at hl 1 rfl) ?_
      refine lv_icmp_eq (tgt := 776) hx hb dL_law_771 (by decide) (fun c9 => ?_) (fun c9 => absurd (by decide) c9)
      refine lv_iload hx hb dL_law_776 (lv_at hl 1 rfl) ?_
      refine lv_if_ne (tgt := 793) hx hb dL_law_778 (by decide) (fun c9 => ?_) (fun c9 => absurd c9 (by decide))
      refine lv_goto (tgt := 2457) hx hb dL_law_793 (by decide) ?_
      exact lw_tail hL C0 (Nat.le_of_ble_eq_true rfl) (Nat.le_of_ble_eq_true rfl) hS ls (lv_sub hl [2, 7] rfl)
    · skip
      exact (fq_229 x2 hc_1 hc_2).elim
    · skip
      exact (fq_230 x2 hc_1 hc_2).elim

set_option maxHeartbeats 8000000 in
set_option maxRecDepth 100000 in
theorem lw_case8 {p : Program} {l : Launch} {e : Env} {s : State} {m : MethodId} {below : List Frame} {meth : Method} {c : Code} {D : va_G} {b L : Nat} {xs : Nat → Int32} (hl0 : l.stackTraces = false) (hL : L = 6) (C0 : lw_At p s m meth c b L xs) (hG : fz_GS (fun q : Nat => s.heap.size ≤ q) s) (k : Nat → ClassId) (hK : va_K D vwCl (fz_tys k) s) (q q2 : Nat → Nat) (f f2 : Nat → Nat → Int32) (pa pa2 : Nat → Option Nat) (v v2 : Nat → Int32) (o o2 : Nat) (g : Nat → Int64) (g2 : Nat → UInt64) (hF : fz_LF q2 f pa v f2 pa2 v2) (H : Heap) (locs : List Loc) (hP : va_P D vwCl (fz_WC k q f pa v ++ ([(o, .inl (k 5, 1, .inr (.inl g)))] ++ ([(o2, .inl (k 6, 1, .inr (.inr (.inr (.inl g2)))))] ++ (fz_WM k q2 f2 pa2 v2)))) H) (hD : va_D (fun q : Nat => s.heap.size ≤ q) (fz_WC k q f pa v ++ ([(o, .inl (k 5, 1, .inr (.inl g)))] ++ ([(o2, .inl (k 6, 1, .inr (.inr (.inr (.inl g2)))))] ++ (fz_WM k q2 f2 pa2 v2))))) (hS : va_S (fun q : Nat => s.heap.size ≤ q) s.heap H locs) (ls : Array Slot) (hl : lv_has ls 9 [(5, .int 0), (4, .ref o2), (3, .ref o), (2, .ref (q2 0)), (1, .ref (q 31)), (0, .ref b)]) :
    W p l e room_1 s m #[Value.ref b] below meth c H locs 2000 400000 (lw_Z below #[Value.ref b] s) (F0 m 796 ls []) := by
  obtain ⟨g_v_0, g_v_1, g_v_2, g_v_3, g_v_4, g_v_5, g_v_6, g_v_7, g_v_8, g_v_9, g_v_10, g_v_11, g_v_12, g_v_13, g_v_14, g_v_15, g_v_17, g_f_2_0, g_f_4_0, g_f_5_0, g_f_6_0, g_f_7_0, g_f_8_0, g_f_9_0, g_f_11_0, g_f_18_0, g_f_19_0, g_pa_0, g_pa_1, g_pa_8, n_v_0, n_v_5, n_v_6, n_v_7, n_v_8, n_v_9, n_v_10, n_v_11, n_v_12, n_v_13, n_v_15, n_v_16, n_v_17, n_v_18, n_v_19, n_v_21, n_f_1_0, n_f_1_1, n_f_1_2, n_f_1_3, n_f_1_4, n_f_1_5, n_f_1_6, n_f_1_7, n_f_1_8, n_f_1_9, n_f_1_10, n_f_1_11, n_f_1_12, n_f_1_13, n_f_1_15, n_f_1_16, n_f_1_17, n_pb_0⟩ := hF
  obtain ⟨hx, hb, hr, hml, hown, hts, hX, hbl, hlocks, hgv⟩ := id C0
  subst hL
  have hL : (6 : Nat) = 6 := rfl
  have hA : ∀ q : Nat, s.heap.size ≤ q → (fun q : Nat => s.heap.size ≤ q) q := fun _ h => h
  have hbA : ¬ (fun q : Nat => s.heap.size ≤ q) b := Nat.not_le.mpr hbl
  have hts9 := fz_hts9 hts
  have hown : s.vm.findClass RL = some m.cls := hown
  have S0 : CallFix p m c code 9 s #[Value.ref b] (Cond.initialized RL :: fz_WA) RL := ⟨hx, hb, hml, hown, hts9⟩
  obtain ⟨x1, ex1⟩ : ∃ z, z = xs 1 := ⟨_, rfl⟩
  obtain ⟨x2, ex2⟩ : ∃ z, z = xs 2 := ⟨_, rfl⟩
  obtain ⟨x3, ex3⟩ : ∃ z, z = xs 3 := ⟨_, rfl⟩
  obtain ⟨x4, ex4⟩ : ∃ z, z = xs 4 := ⟨_, rfl⟩
  obtain ⟨x5, ex5⟩ : ∃ z, z = xs 5 := ⟨_, rfl⟩
  refine lv_aload_n hx hb dL_law_796 rfl (lv_at hl 4 rfl) ?_
  refine lv_aload_n hx hb dL_law_797 rfl (lv_at hl 5 rfl) ?_
  refine lv_iload hx hb dL_law_798 (lv_at hl 0 rfl) ?_
  refine lv_iconst (v := 1) hx hb dL_law_800 (by decide) ?_
  refine lv_iadd hx hb dL_law_801 ?_
  refine fz_I (y := 1) (by decide) ?_
  refine va_sld hx hb hX hbl hbA hS (fz_vin (by decide)) dL_law_802 ?_
  refine fz_I (y := x1) ex1.symm ?_
  refine lv_aload_n hx hb dL_law_803 rfl (lv_at hl 5 rfl) ?_
  refine lv_iload hx hb dL_law_804 (lv_at hl 0 rfl) ?_
  refine lv_iconst (v := 2) hx hb dL_law_806 (by decide) ?_
  refine lv_iadd hx hb dL_law_807 ?_
  refine fz_I (y := 2) (by decide) ?_
  refine va_sld hx hb hX hbl hbA hS (fz_vin (by decide)) dL_law_808 ?_
  refine fz_I (y := x2) ex2.symm ?_
  refine lv_aload_n hx hb dL_law_809 rfl (lv_at hl 2 rfl) ?_
  have hPc := hP.sub (ws' := (fz_WC k q f pa v ++ ([(o, .inl (k 5, 1, .inr (.inl g)))]))) [0, 1, 2, 3, 4, 5, 6, 7, 8, 9, 10, 11, 12, 13, 14, 15, 16, 17, 18, 19, 20, 21, 22, 23, 24, 25, 26, 27, 28, 29, 30, 31, 32, 33, 34, 35, 36, 37, 38] rfl
  have hDc : va_D (va_A (fz_WC k q f pa v ++ ([(o, .inl (k 5, 1, .inr (.inl g)))])) H.size) (fz_WC k q f pa v ++ ([(o, .inl (k 5, 1, .inr (.inl g)))])) := (hD.sub (ws' := (fz_WC k q f pa v ++ ([(o, .inl (k 5, 1, .inr (.inl g)))]))) [0, 1, 2, 3, 4, 5, 6, 7, 8, 9, 10, 11, 12, 13, 14, 15, 16, 17, 18, 19, 20, 21, 22, 23, 24, 25, 26, 27, 28, 29, 30, 31, 32, 33, 34, 35, 36, 37, 38] (by decide) rfl).self
  have hFc := va_free (wc := (fz_WC k q f pa v ++ ([(o, .inl (k 5, 1, .inr (.inl g)))]))) hD hS hA [0, 1, 2, 3, 4, 5, 6, 7, 8, 9, 10, 11, 12, 13, 14, 15, 16, 17, 18, 19, 20, 21, 22, 23, 24, 25, 26, 27, 28, 29, 30, 31, 32, 33, 34, 35, 36, 37, 38] rfl
  refine fz_hSi (As := [.ref (q 31), .int x1, .int x2, .ref o]) (rest := []) S0 (h_openPages l hl0 (va_A (fz_WC k q f pa v ++ ([(o, .inl (k 5, 1, .inr (.inl g)))])) H.size) D k q f pa v o g x1 x2 g_v_1 g_f_4_0 g_f_7_0) (vx_cwSW 4 hts9 (fz_gSW fm_692 fm_869 fm_870 fm_816) rfl rfl rfl ⟨by decide, by decide, by decide +kernel⟩ ⟨Nat.le_of_ble_eq_true rfl, Nat.le_of_ble_eq_true rfl⟩) hFc (fun a9 h9 => Or.inr h9) hG hS hPc hK hDc rfl hl.1 rfl (Nat.le_of_ble_eq_true rfl) dL_law_810 ⟨Nat.le_of_ble_eq_true rfl, Nat.le_of_ble_eq_true rfl⟩ (fun r_1 u_1 H locs hw hz1 hk1 hP1 hS => ?_)
  obtain ⟨hP, hD⟩ := va_join (wr := ([(o2, .inl (k 6, 1, .inr (.inr (.inr (.inl g2)))))] ++ (fz_WM k q2 f2 pa2 v2))) (w1 := ([(o, .inl (k 5, 1, .inr (.inl u_1)))])) hP hD [0, 1, 2, 3, 4, 5, 6, 7, 8, 9, 10, 11, 12, 13, 14, 15, 16, 17, 18, 19, 20, 21, 22, 23, 24, 25, 26, 27, 28, 29, 30, 31, 32, 33, 34, 35, 36, 37, 38] [39, 40, 41, 42, 43, 44, 45, 46, 47] rfl rfl (by decide) (by decide) hk1 hFc hP1 (fz_Dsame (hDc.sub (ws' := [(o, .inl (k 5, 1, .inr (.inl g)))]) [38] (by decide) rfl) rfl)
  have hP : va_P D vwCl ([(o2, .inl (k 6, 1, .inr (.inr (.inr (.inl g2)))))] ++ (fz_WM k q2 f2 pa2 v2 ++ ([(o, .inl (k 5, 1, .inr (.inl u_1)))]))) H := hP
  have hD : va_D (fun q : Nat => s.heap.size ≤ q) ([(o2, .inl (k 6, 1, .inr (.inr (.inr (.inl g2)))))] ++ (fz_WM k q2 f2 pa2 v2 ++ ([(o, .inl (k 5, 1, .inr (.inl u_1)))]))) := hD
  rcases hw with ⟨rfl, hu_1, hc_1⟩ | ⟨rfl, hc_1⟩ | ⟨rfl, hc_1⟩
  · skip
    obtain rfl : x1 = 0 := (fq_231 x1 x2 hc_1)
    refine lv_istore (lv' := [(6, .int 0), (5, .int 0), (4, .ref o2), (3, .ref o), (2, .ref (q2 0)), (1, .ref (q 31)), (0, .ref b)]) hx hb dL_law_813 hl (by decide) rfl (fun ls hl => ?_)
    refine lv_aload_n hx hb dL_law_815 rfl (lv_at hl 4 rfl) ?_
    refine lv_aload_n hx hb dL_law_816 rfl (lv_at hl 6 rfl) ?_
    refine lv_iload hx hb dL_law_817 (lv_at hl 1 rfl) ?_
    refine lv_iconst (v := 1) hx hb dL_law_819 (by decide) ?_
    refine lv_iadd hx hb dL_law_820 ?_
    refine fz_I (y := 1) (by decide) ?_
    refine va_sld hx hb hX hbl hbA hS (fz_vin (by decide)) dL_law_821 ?_
    refine fz_I (y := 0) ex1.symm ?_
    refine lv_aload_n hx hb dL_law_822 rfl (lv_at hl 6 rfl) ?_
    refine lv_iload hx hb dL_law_823 (lv_at hl 1 rfl) ?_
    refine lv_iconst (v := 2) hx hb dL_law_825 (by decide) ?_
    refine lv_iadd hx hb dL_law_826 ?_
    refine fz_I (y := 2) (by decide) ?_
    refine va_sld hx hb hX hbl hbA hS (fz_vin (by decide)) dL_law_827 ?_
    refine fz_I (y := x2) ex2.symm ?_
    have hPc := hP.sub (ws' := (fz_WM k q2 f2 pa2 v2)) [1, 2, 3, 4, 5, 6, 7, 8] rfl
    have hDc : va_D (va_A (fz_WM k q2 f2 pa2 v2) H.size) (fz_WM k q2 f2 pa2 v2) := (hD.sub (ws' := (fz_WM k q2 f2 pa2 v2)) [1, 2, 3, 4, 5, 6, 7, 8] (by decide) rfl).self
    have hFc := va_free (wc := (fz_WM k q2 f2 pa2 v2)) hD hS hA [1, 2, 3, 4, 5, 6, 7, 8] rfl
    refine fz_cVi (As := [.int 0, .int x2]) (rest := []) S0 (m_p_openPages l (va_A (fz_WM k q2 f2 pa2 v2) H.size) D k q2 f2 pa2 v2 0 x2 n_f_1_0 n_f_1_7 n_f_1_9 n_f_1_13 n_f_1_12 n_f_1_10) (fz_cwV (C := RX10) 2 hts9 fm_871 fm_872 fm_873 fm_874 fm_469 rfl rfl ⟨by decide, by decide, by decide +kernel⟩ ⟨Nat.le_of_ble_eq_true rfl, Nat.le_of_ble_eq_true rfl⟩) (va_recv hK hPc (ci := 14) (q0 := 0) rfl rfl) hFc (fun a9 h9 => Or.inr h9) hG hS hPc hK hDc rfl hl.1 rfl (Nat.le_of_ble_eq_true rfl) dL_law_828 ⟨Nat.le_of_ble_eq_true rfl, Nat.le_of_ble_eq_true rfl⟩ (fun r_2 u_2 H locs hw hz1 hk1 hP1 hS => ?_)
    obtain ⟨hP, hD⟩ := va_join (wr := ([(o2, .inl (k 6, 1, .inr (.inr (.inr (.inl g2)))))] ++ ([(o, .inl (k 5, 1, .inr (.inl u_1)))]))) (w1 := (fz_MO q2 u_2)) hP hD [1, 2, 3, 4, 5, 6, 7, 8] [0, 9] rfl rfl (by decide) (by decide) hk1 hFc hP1 (fz_Dsame (hDc.sub (ws' := fz_MO q2 v2) [0] (by decide) rfl) rfl)
    have hP : va_P D vwCl ([(o2, .inl (k 6, 1, .inr (.inr (.inr (.inl g2)))))] ++ ([(o, .inl (k 5, 1, .inr (.inl u_1)))] ++ (fz_MO q2 u_2))) H := hP
    have hD : va_D (fun q : Nat => s.heap.size ≤ q) ([(o2, .inl (k 6, 1, .inr (.inr (.inr (.inl g2)))))] ++ ([(o, .inl (k 5, 1, .inr (.inl u_1)))] ++ (fz_MO q2 u_2))) := hD
    rcases hw with ⟨rfl, ht_2, hc_2⟩ | ⟨rfl, ht_2, hc_2⟩ | ⟨rfl, ht_2, hc_2⟩
    · skip
      exact (fq_112 hc_2).elim
    · skip
      exact (fq_232 x2 hc_1 hc_2).elim
    · skip
      refine lv_istore (lv' := [(7, .int 0), (6, .int 0), (5, .int 0), (4, .ref o2), (3, .ref o), (2, .ref (q2 0)), (1, .ref (q 31)), (0, .ref b)]) hx hb dL_law_831 hl (by decide) rfl (fun ls hl => ?_)
      refine lv_aload_n hx hb dL_law_833 rfl (lv_at hl 5 rfl) ?_
      have hPc := hP.sub (ws' := (fz_MO q2 u_2)) [2] rfl
      have hDc : va_D (va_A (fz_MO q2 u_2) H.size) (fz_MO q2 u_2) := (hD.sub (ws' := (fz_MO q2 u_2)) [2] (by decide) rfl).self
      have hFc := va_free (wc := (fz_MO q2 u_2)) hD hS hA [2] rfl
      refine fz_cVi (As := []) (rest := []) S0 (m_thrown l (va_A (fz_MO q2 u_2) H.size) D k q2 u_2) (fz_cwV (C := RX10) 0 hts9 fm_823 fm_824 fm_825 fm_826 fm_469 rfl rfl ⟨by decide, by decide, by decide +kernel⟩ ⟨Nat.le_of_ble_eq_true rfl, Nat.le_of_ble_eq_true rfl⟩) (va_recv hK hPc (ci := 14) (q0 := 0) rfl rfl) hFc (fun a9 h9 => Or.inr h9) hG hS hPc hK hDc rfl hl.1 rfl (Nat.le_of_ble_eq_true rfl) dL_law_834 ⟨Nat.le_of_ble_eq_true rfl, Nat.le_of_ble_eq_true rfl⟩ (fun r_3 u_3 H locs hw hz1 hk1 hP1 hS => ?_)
      obtain ⟨hP, hD⟩ := va_join (wr := ([(o2, .inl (k 6, 1, .inr (.inr (.inr (.inl g2)))))] ++ ([(o, .inl (k 5, 1, .inr (.inl u_1)))]))) (w1 := (fz_MO q2 u_2)) hP hD [2] [0, 1] rfl rfl (by decide) (by decide) hk1 hFc hP1 hDc
      have hP : va_P D vwCl ([(o2, .inl (k 6, 1, .inr (.inr (.inr (.inl g2)))))] ++ ([(o, .inl (k 5, 1, .inr (.inl u_1)))] ++ (fz_MO q2 u_2))) H := hP
      have hD : va_D (fun q : Nat => s.heap.size ≤ q) ([(o2, .inl (k 6, 1, .inr (.inr (.inr (.inl g2)))))] ++ ([(o, .inl (k 5, 1, .inr (.inl u_1)))] ++ (fz_MO q2 u_2))) := hD
      obtain rfl : r_3 = u_2 0 := hw
      refine fz_I (y := 0) ht_2 ?_
      refine lv_iload hx hb dL_law_837 (lv_at hl 1 rfl) ?_
      refine lv_icmp_eq (tgt := 844) hx hb dL_law_839 (by decide) (fun c9 => ?_) (fun c9 => absurd (by decide) c9)
      refine lv_iload hx hb dL_law_844 (lv_at hl 1 rfl) ?_
      refine lv_if_ne (tgt := 861) hx hb dL_law_846 (by decide) (fun c9 => absurd (by decide) c9) (fun c9 => ?_)
      refine lv_aload_n hx hb dL_law_849 rfl (lv_at hl 4 rfl) ?_
      refine lv_iconst (v := 0) hx hb dL_law_850 (by decide) ?_
      refine va_lald hx hb hK hP 1 5 rfl rfl (fz_vin (by decide)) dL_law_851 ?_
      refine fz_V (y := .long ((0 : Int32).toInt64)) (congrArg Value.long hu_1) ?_
      refine lv_iload hx hb dL_law_852 (lv_at hl 0 rfl) ?_
      refine lv_i2l (v := (0 : Int32).toInt64) hx hb dL_law_854 rfl ?_
      refine W.lcmp hx hb dL_law_855 ?_
      refine fz_I (y := 0) (by decide) ?_
      refine lv_if_eq (tgt := 861) hx hb dL_law_856 (by decide) (fun c9 => ?_) (fun c9 => absurd (by decide) c9)
      refine lv_goto (tgt := 2457) hx hb dL_law_861 (by decide) ?_
      exact lw_tail hL C0 (Nat.le_of_ble_eq_true rfl) (Nat.le_of_ble_eq_true rfl) hS ls (lv_sub hl [2, 7] rfl)
  · skip
    refine lv_istore (lv' := [(6, .int 1), (5, .int 0), (4, .ref o2), (3, .ref o), (2, .ref (q2 0)), (1, .ref (q 31)), (0, .ref b)]) hx hb dL_law_813 hl (by decide) rfl (fun ls hl => ?_)
    refine lv_aload_n hx hb dL_law_815 rfl (lv_at hl 4 rfl) ?_
    refine lv_aload_n hx hb dL_law_816 rfl (lv_at hl 6 rfl) ?_
    refine lv_iload hx hb dL_law_817 (lv_at hl 1 rfl) ?_
    refine lv_iconst (v := 1) hx hb dL_law_819 (by decide) ?_
    refine lv_iadd hx hb dL_law_820 ?_
    refine fz_I (y := 1) (by decide) ?_
    refine va_sld hx hb hX hbl hbA hS (fz_vin (by decide)) dL_law_821 ?_
    refine fz_I (y := x1) ex1.symm ?_
    refine lv_aload_n hx hb dL_law_822 rfl (lv_at hl 6 rfl) ?_
    refine lv_iload hx hb dL_law_823 (lv_at hl 1 rfl) ?_
    refine lv_iconst (v := 2) hx hb dL_law_825 (by decide) ?_
    refine lv_iadd hx hb dL_law_826 ?_
    refine fz_I (y := 2) (by decide) ?_
    refine va_sld hx hb hX hbl hbA hS (fz_vin (by decide)) dL_law_827 ?_
    refine fz_I (y := x2) ex2.symm ?_
    have hPc := hP.sub (ws' := (fz_WM k q2 f2 pa2 v2)) [1, 2, 3, 4, 5, 6, 7, 8] rfl
    have hDc : va_D (va_A (fz_WM k q2 f2 pa2 v2) H.size) (fz_WM k q2 f2 pa2 v2) := (hD.sub (ws' := (fz_WM k q2 f2 pa2 v2)) [1, 2, 3, 4, 5, 6, 7, 8] (by decide) rfl).self
    have hFc := va_free (wc := (fz_WM k q2 f2 pa2 v2)) hD hS hA [1, 2, 3, 4, 5, 6, 7, 8] rfl
    refine fz_cVi (As := [.int x1, .int x2]) (rest := []) S0 (m_p_openPages l (va_A (fz_WM k q2 f2 pa2 v2) H.size) D k q2 f2 pa2 v2 x1 x2 n_f_1_0 n_f_1_7 n_f_1_9 n_f_1_13 n_f_1_12 n_f_1_10) (fz_cwV (C := RX10) 2 hts9 fm_871 fm_872 fm_873 fm_874 fm_469 rfl rfl ⟨by decide, by decide, by decide +kernel⟩ ⟨Nat.le_of_ble_eq_true rfl, Nat.le_of_ble_eq_true rfl⟩) (va_recv hK hPc (ci := 14) (q0 := 0) rfl rfl) hFc (fun a9 h9 => Or.inr h9) hG hS hPc hK hDc rfl hl.1 rfl (Nat.le_of_ble_eq_true rfl) dL_law_828 ⟨Nat.le_of_ble_eq_true rfl, Nat.le_of_ble_eq_true rfl⟩ (fun r_2 u_2 H locs hw hz1 hk1 hP1 hS => ?_)
    obtain ⟨hP, hD⟩ := va_join (wr := ([(o2, .inl (k 6, 1, .inr (.inr (.inr (.inl g2)))))] ++ ([(o, .inl (k 5, 1, .inr (.inl u_1)))]))) (w1 := (fz_MO q2 u_2)) hP hD [1, 2, 3, 4, 5, 6, 7, 8] [0, 9] rfl rfl (by decide) (by decide) hk1 hFc hP1 (fz_Dsame (hDc.sub (ws' := fz_MO q2 v2) [0] (by decide) rfl) rfl)
    have hP : va_P D vwCl ([(o2, .inl (k 6, 1, .inr (.inr (.inr (.inl g2)))))] ++ ([(o, .inl (k 5, 1, .inr (.inl u_1)))] ++ (fz_MO q2 u_2))) H := hP
    have hD : va_D (fun q : Nat => s.heap.size ≤ q) ([(o2, .inl (k 6, 1, .inr (.inr (.inr (.inl g2)))))] ++ ([(o, .inl (k 5, 1, .inr (.inl u_1)))] ++ (fz_MO q2 u_2))) := hD
    rcases hw with ⟨rfl, ht_2, hc_2⟩ | ⟨rfl, ht_2, hc_2⟩ | ⟨rfl, ht_2, hc_2⟩
    · skip
      refine lv_istore (lv' := [(7, .int 0), (6, .int 1), (5, .int 0), (4, .ref o2), (3, .ref o), (2, .ref (q2 0)), (1, .ref (q 31)), (0, .ref b)]) hx hb dL_law_831 hl (by decide) rfl (fun ls hl => ?_)
      refine lv_aload_n hx hb dL_law_833 rfl (lv_at hl 5 rfl) ?_
      have hPc := hP.sub (ws' := (fz_MO q2 u_2)) [2] rfl
      have hDc : va_D (va_A (fz_MO q2 u_2) H.size) (fz_MO q2 u_2) := (hD.sub (ws' := (fz_MO q2 u_2)) [2] (by decide) rfl).self
      have hFc := va_free (wc := (fz_MO q2 u_2)) hD hS hA [2] rfl
      refine fz_cVi (As := []) (rest := []) S0 (m_thrown l (va_A (fz_MO q2 u_2) H.size) D k q2 u_2) (fz_cwV (C := RX10) 0 hts9 fm_823 fm_824 fm_825 fm_826 fm_469 rfl rfl ⟨by decide, by decide, by decide +kernel⟩ ⟨Nat.le_of_ble_eq_true rfl, Nat.le_of_ble_eq_true rfl⟩) (va_recv hK hPc (ci := 14) (q0 := 0) rfl rfl) hFc (fun a9 h9 => Or.inr h9) hG hS hPc hK hDc rfl hl.1 rfl (Nat.le_of_ble_eq_true rfl) dL_law_834 ⟨Nat.le_of_ble_eq_true rfl, Nat.le_of_ble_eq_true rfl⟩ (fun r_3 u_3 H locs hw hz1 hk1 hP1 hS => ?_)
      obtain ⟨hP, hD⟩ := va_join (wr := ([(o2, .inl (k 6, 1, .inr (.inr (.inr (.inl g2)))))] ++ ([(o, .inl (k 5, 1, .inr (.inl u_1)))]))) (w1 := (fz_MO q2 u_2)) hP hD [2] [0, 1] rfl rfl (by decide) (by decide) hk1 hFc hP1 hDc
      have hP : va_P D vwCl ([(o2, .inl (k 6, 1, .inr (.inr (.inr (.inl g2)))))] ++ ([(o, .inl (k 5, 1, .inr (.inl u_1)))] ++ (fz_MO q2 u_2))) H := hP
      have hD : va_D (fun q : Nat => s.heap.size ≤ q) ([(o2, .inl (k 6, 1, .inr (.inr (.inr (.inl g2)))))] ++ ([(o, .inl (k 5, 1, .inr (.inl u_1)))] ++ (fz_MO q2 u_2))) := hD
      obtain rfl : r_3 = u_2 0 := hw
      refine fz_I (y := 1) ht_2 ?_
      refine lv_iload hx hb dL_law_837 (lv_at hl 1 rfl) ?_
      refine lv_icmp_eq (tgt := 844) hx hb dL_law_839 (by decide) (fun c9 => ?_) (fun c9 => absurd (by decide) c9)
      refine lv_iload hx hb dL_law_844 (lv_at hl 1 rfl) ?_
      refine lv_if_ne (tgt := 861) hx hb dL_law_846 (by decide) (fun c9 => ?_) (fun c9 => absurd c9 (by decide))
      refine lv_goto (tgt := 2457) hx hb dL_law_861 (by decide) ?_
      exact lw_tail hL C0 (Nat.le_of_ble_eq_true rfl) (Nat.le_of_ble_eq_true rfl) hS ls (lv_sub hl [2, 7] rfl)
    · skip
      exact (fq_233 x1 x2 hc_1 hc_2).elim
    · skip
      exact (fq_234 x1 x2 hc_1 hc_2).elim
  · skip
    obtain rfl : x1 = 0 := (fq_235 x1 x2 hc_1)
    refine lv_istore (lv' := [(6, .int 2), (5, .int 0), (4, .ref o2), (3, .ref o), (2, .ref (q2 0)), (1, .ref (q 31)), (0, .ref b)]) hx hb dL_law_813 hl (by decide) rfl (fun ls hl => ?_)
    refine lv_aload_n hx hb dL_law_815 rfl (lv_at hl 4 rfl) ?_
    refine lv_aload_n hx hb dL_law_816 rfl (lv_at hl 6 rfl) ?_
    refine lv_iload hx hb dL_law_817 (lv_at hl 1 rfl) ?_
    refine lv_iconst (v := 1) hx hb dL_law_819 (by decide) ?_
    refine lv_iadd hx hb dL_law_820 ?_
    refine fz_I (y := 1) (by decide) ?_
    refine va_sld hx hb hX hbl hbA hS (fz_vin (by decide)) dL_law_821 ?_
    refine fz_I (y := 0) ex1.symm ?_
    refine lv_aload_n hx hb dL_law_822 rfl (lv_at hl 6 rfl) ?_
    refine lv_iload hx hb dL_law_823 (lv_at hl 1 rfl) ?_
    refine lv_iconst (v := 2) hx hb dL_law_825 (by decide) ?_
    refine lv_iadd hx hb dL_law_826 ?_
    refine fz_I (y := 2) (by decide) ?_
    refine va_sld hx hb hX hbl hbA hS (fz_vin (by decide)) dL_law_827 ?_
    refine fz_I (y := x2) ex2.symm ?_
    have hPc := hP.sub (ws' := (fz_WM k q2 f2 pa2 v2)) [1, 2, 3, 4, 5, 6, 7, 8] rfl
    have hDc : va_D (va_A (fz_WM k q2 f2 pa2 v2) H.size) (fz_WM k q2 f2 pa2 v2) := (hD.sub (ws' := (fz_WM k q2 f2 pa2 v2)) [1, 2, 3, 4, 5, 6, 7, 8] (by decide) rfl).self
    have hFc := va_free (wc := (fz_WM k q2 f2 pa2 v2)) hD hS hA [1, 2, 3, 4, 5, 6, 7, 8] rfl
    refine fz_cVi (As := [.int 0, .int x2]) (rest := []) S0 (m_p_openPages l (va_A (fz_WM k q2 f2 pa2 v2) H.size) D k q2 f2 pa2 v2 0 x2 n_f_1_0 n_f_1_7 n_f_1_9 n_f_1_13 n_f_1_12 n_f_1_10) (fz_cwV (C := RX10) 2 hts9 fm_871 fm_872 fm_873 fm_874 fm_469 rfl rfl ⟨by decide, by decide, by decide +kernel⟩ ⟨Nat.le_of_ble_eq_true rfl, Nat.le_of_ble_eq_true rfl⟩) (va_recv hK hPc (ci := 14) (q0 := 0) rfl rfl) hFc (fun a9 h9 => Or.inr h9) hG hS hPc hK hDc rfl hl.1 rfl (Nat.le_of_ble_eq_true rfl) dL_law_828 ⟨Nat.le_of_ble_eq_true rfl, Nat.le_of_ble_eq_true rfl⟩ (fun r_2 u_2 H locs hw hz1 hk1 hP1 hS => ?_)
    obtain ⟨hP, hD⟩ := va_join (wr := ([(o2, .inl (k 6, 1, .inr (.inr (.inr (.inl g2)))))] ++ ([(o, .inl (k 5, 1, .inr (.inl u_1)))]))) (w1 := (fz_MO q2 u_2)) hP hD [1, 2, 3, 4, 5, 6, 7, 8] [0, 9] rfl rfl (by decide) (by decide) hk1 hFc hP1 (fz_Dsame (hDc.sub (ws' := fz_MO q2 v2) [0] (by decide) rfl) rfl)
    have hP : va_P D vwCl ([(o2, .inl (k 6, 1, .inr (.inr (.inr (.inl g2)))))] ++ ([(o, .inl (k 5, 1, .inr (.inl u_1)))] ++ (fz_MO q2 u_2))) H := hP
    have hD : va_D (fun q : Nat => s.heap.size ≤ q) ([(o2, .inl (k 6, 1, .inr (.inr (.inr (.inl g2)))))] ++ ([(o, .inl (k 5, 1, .inr (.inl u_1)))] ++ (fz_MO q2 u_2))) := hD
    rcases hw with ⟨rfl, ht_2, hc_2⟩ | ⟨rfl, ht_2, hc_2⟩ | ⟨rfl, ht_2, hc_2⟩
    · skip
      exact (fq_112 hc_2).elim
    · skip
      refine lv_istore (lv' := [(7, .int 0), (6, .int 2), (5, .int 0), (4, .ref o2), (3, .ref o), (2, .ref (q2 0)), (1, .ref (q 31)), (0, .ref b)]) hx hb dL_law_831 hl (by decide) rfl (fun ls hl => ?_)
      refine lv_aload_n hx hb dL_law_833 rfl (lv_at hl 5 rfl) ?_
      have hPc := hP.sub (ws' := (fz_MO q2 u_2)) [2] rfl
      have hDc : va_D (va_A (fz_MO q2 u_2) H.size) (fz_MO q2 u_2) := (hD.sub (ws' := (fz_MO q2 u_2)) [2] (by decide) rfl).self
      have hFc := va_free (wc := (fz_MO q2 u_2)) hD hS hA [2] rfl
      refine fz_cVi (As := []) (rest := []) S0 (m_thrown l (va_A (fz_MO q2 u_2) H.size) D k q2 u_2) (fz_cwV (C := RX10) 0 hts9 fm_823 fm_824 fm_825 fm_826 fm_469 rfl rfl ⟨by decide, by decide, by decide +kernel⟩ ⟨Nat.le_of_ble_eq_true rfl, Nat.le_of_ble_eq_true rfl⟩) (va_recv hK hPc (ci := 14) (q0 := 0) rfl rfl) hFc (fun a9 h9 => Or.inr h9) hG hS hPc hK hDc rfl hl.1 rfl (Nat.le_of_ble_eq_true rfl) dL_law_834 ⟨Nat.le_of_ble_eq_true rfl, Nat.le_of_ble_eq_true rfl⟩ (fun r_3 u_3 H locs hw hz1 hk1 hP1 hS => ?_)
      obtain ⟨hP, hD⟩ := va_join (wr := ([(o2, .inl (k 6, 1, .inr (.inr (.inr (.inl g2)))))] ++ ([(o, .inl (k 5, 1, .inr (.inl u_1)))]))) (w1 := (fz_MO q2 u_2)) hP hD [2] [0, 1] rfl rfl (by decide) (by decide) hk1 hFc hP1 hDc
      have hP : va_P D vwCl ([(o2, .inl (k 6, 1, .inr (.inr (.inr (.inl g2)))))] ++ ([(o, .inl (k 5, 1, .inr (.inl u_1)))] ++ (fz_MO q2 u_2))) H := hP
      have hD : va_D (fun q : Nat => s.heap.size ≤ q) ([(o2, .inl (k 6, 1, .inr (.inr (.inr (.inl g2)))))] ++ ([(o, .inl (k 5, 1, .inr (.inl u_1)))] ++ (fz_MO q2 u_2))) := hD
      obtain rfl : r_3 = u_2 0 := hw
      refine fz_I (y := 2) ht_2 ?_
      refine lv_iload hx hb dL_law_837 (lv_at hl 1 rfl) ?_
      refine lv_icmp_eq (tgt := 844) hx hb dL_law_839 (by decide) (fun c9 => ?_) (fun c9 => absurd (by decide) c9)
      refine lv_iload hx hb dL_law_844 (lv_at hl 1 rfl) ?_
      refine lv_if_ne (tgt := 861) hx hb dL_law_846 (by decide) (fun c9 => ?_) (fun c9 => absurd c9 (by decide))
      refine lv_goto (tgt := 2457) hx hb dL_law_861 (by decide) ?_
      exact lw_tail hL C0 (Nat.le_of_ble_eq_true rfl) (Nat.le_of_ble_eq_true rfl) hS ls (lv_sub hl [2, 7] rfl)
    · skip
      exact (fq_236 x2 hc_1 hc_2).elim

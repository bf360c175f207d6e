set_option maxHeartbeats 8000000 in
set_option maxRecDepth 100000 in
theorem whole_start {p : Program} {e : Env} {s : State} {m : MethodId} {below : List Frame} {meth : Method} {c : Code} (l : Launch) (hflags : l.flags = flags0) {b L : Nat} {xs : Nat → Int32} (hL : L ≤ 6) (C0 : lw_At p s m meth c b L xs) : W p l e room_1 s m #[Value.ref b] below meth c s.heap [] 0 0 (lw_Z below #[Value.ref b] s) (entryFrame m ([Value.ref b] : List Value).toArray 9) := by
  have hl0 : l.stackTraces = false := by unfold Launch.stackTraces; rw [hflags]; decide +kernel
  have hG := lw_GS C0
  obtain ⟨hx, hb, hr, hml, hown, hts, hX, hbl, hlocks, hgv⟩ := id C0
  obtain ⟨D, k, hK⟩ := lw_K hts
  have hA : ∀ q : Nat, s.heap.size ≤ q → (fun q : Nat => s.heap.size ≤ q) q := fun _ h => h
  have hts9 := fz_hts9 hts
  have hown : s.vm.findClass RL = some m.cls := hown
  have S0 : CallFix p m c code 9 s #[Value.ref b] (Cond.initialized RL :: fz_WA) RL := ⟨hx, hb, hml, hown, hts9⟩
  have hP : va_P D vwCl [] s.heap := fun k q h => by simp at h
  have hD : va_D (fun q : Nat => s.heap.size ≤ q) [] := fz_nilD
  have hS : va_S (fun q : Nat => s.heap.size ≤ q) s.heap s.heap [] := va_S.rf
  suffices hh : ∀ ls : Array Slot, lv_has ls 9 [(0, .ref b)] → W p l e room_1 s m #[Value.ref b] below meth c s.heap [] 0 0 (lw_Z below #[Value.ref b] s) (F0 m 0 ls []) from by
    rw [lg_entry_eq]
    exact hh _ (lv_entry [Value.ref b] (Nat.le_of_ble_eq_true rfl))
  intro ls hl
  refine va_new (ci := 13) (fs := [.null, .null, .int 0, .int 0, .null, .null, .null, .null]) (C := RX9) (T := TX9) (N := 8) hx hb hts9 (fun w9 h9 => fz_m (fin_X9 w9 h9)) tyX9 tyX9_ok hown (hts9 _ (fz_m fm_1064)) (hts9 _ (fz_m fm_1065)) (hts9 _ (fz_m fm_6)) hK hP hD hS hA rfl (fun j hj => by rcases (show j = 0 ∨ j = 1 ∨ j = 2 ∨ j = 3 ∨ j = 4 ∨ j = 5 ∨ j = 6 ∨ j = 7 by omega) with rfl | rfl | rfl | rfl | rfl | rfl | rfl | rfl <;> rfl) (Nat.le_of_ble_eq_true rfl) (Nat.le_of_ble_eq_true rfl) dL_law_0 (fun s_0 H hP hD hS => ?_)
  have hP : va_P D vwCl [(s_0, .inr (13, [.null, .null, .int 0, .int 0, .null, .null, .null, .null]))] H := hP
  have hD : va_D (fun q : Nat => s.heap.size ≤ q) [(s_0, .inr (13, [.null, .null, .int 0, .int 0, .null, .null, .null, .null]))] := hD
  refine lv_dup hx hb dL_law_3 rfl ?_
  have hPc := hP.sub (ws' := [(s_0, .inr (13, [.null, .null, .int 0, .int 0, .null, .null, .null, .null]))]) [0] rfl
  have hDc : va_D (va_A [(s_0, .inr (13, [.null, .null, .int 0, .int 0, .null, .null, .null, .null]))] H.size) [(s_0, .inr (13, [.null, .null, .int 0, .int 0, .null, .null, .null, .null]))] := (hD.sub (ws' := [(s_0, .inr (13, [.null, .null, .int 0, .int 0, .null, .null, .null, .null]))]) [0] (by decide) rfl).self
  have hFc := va_free (wc := [(s_0, .inr (13, [.null, .null, .int 0, .int 0, .null, .null, .null, .null]))]) hD hS hA [0] rfl
  refine fz_kI (As := []) (rest := [.ref s_0]) S0 (k_FA l (va_A [(s_0, .inr (13, [.null, .null, .int 0, .int 0, .null, .null, .null, .null]))] H.size) D k s_0) (cwI 0 hts9 (fz_g fm_1066) rfl rfl rfl (hts9 _ (fz_m fm_6)) (hts9 _ (fz_m fm_1067)) (hts9 _ (fz_m fm_1068)) rfl (by decide +kernel) ⟨Nat.le_of_ble_eq_true rfl, Nat.le_of_ble_eq_true rfl⟩) hFc (fun a9 h9 => Or.inr h9) hG hS hPc hK hDc rfl hl.1 rfl (Nat.le_of_ble_eq_true rfl) dL_law_4 ⟨Nat.le_of_ble_eq_true rfl, Nat.le_of_ble_eq_true rfl⟩ (fun u_1 H locs hw hz1 hk1 hP1 hD1 hS => ?_)
  obtain ⟨hP2, hD2⟩ := va_join (wr := []) (w1 := fz_WC k u_1.1 u_1.2 (fun _ => none) fz_v0) hP hD [0] [] rfl rfl (by decide) (by decide) hk1 hFc hP1 hD1
  obtain ⟨hq_1, g_2_0, g_4_0, g_5_0, g_6_0, g_7_0, g_8_0, g_9_0, g_11_0, g_18_0, g_19_0, -⟩ := hw
  subst hq_1
  have hP : va_P D vwCl (fz_WC k u_1.1 u_1.2 (fun _ => none) fz_v0) H := hP2
  have hD : va_D (fun q : Nat => s.heap.size ≤ q) (fz_WC k u_1.1 u_1.2 (fun _ => none) fz_v0) := hD2
  refine lv_astore_n (lv' := [(1, .ref (u_1.1 31)), (0, .ref b)]) hx hb dL_law_7 rfl hl (by decide) rfl (fun ls hl => ?_)
  refine va_new (ci := 14) (fs := [.int 0, .null, .null, .null, .null, .int 0, .int 0, .int 0, .int 0, .int 0, .int 0, .int 0, .int 0, .int 0, .null, .int 0, .int 0, .int 0, .int 0, .int 0, .null, .int 0]) (C := RX10) (T := TX10) (N := 22) hx hb hts9 (fun w9 h9 => fz_m (fin_X10 w9 h9)) tyX10 tyX10_ok hown (hts9 _ (fz_m fm_1069)) (hts9 _ (fz_m fm_1070)) (hts9 _ (fz_m fm_469)) hK hP hD hS hA rfl (fun j hj => by rcases (show j = 0 ∨ j = 1 ∨ j = 2 ∨ j = 3 ∨ j = 4 ∨ j = 5 ∨ j = 6 ∨ j = 7 ∨ j = 8 ∨ j = 9 ∨ j = 10 ∨ j = 11 ∨ j = 12 ∨ j = 13 ∨ j = 14 ∨ j = 15 ∨ j = 16 ∨ j = 17 ∨ j = 18 ∨ j = 19 ∨ j = 20 ∨ j = 21 by omega) with rfl | rfl | rfl | rfl | rfl | rfl | rfl | rfl | rfl | rfl | rfl | rfl | rfl | rfl | rfl | rfl | rfl | rfl | rfl | rfl | rfl | rfl <;> rfl) (Nat.le_of_ble_eq_true rfl) (Nat.le_of_ble_eq_true rfl) dL_law_8 (fun s_8 H hP hD hS => ?_)
  have hP : va_P D vwCl (fz_WC k u_1.1 u_1.2 (fun _ => none) fz_v0 ++ [(s_8, .inr (14, [.int 0, .null, .null, .null, .null, .int 0, .int 0, .int 0, .int 0, .int 0, .int 0, .int 0, .int 0, .int 0, .null, .int 0, .int 0, .int 0, .int 0, .int 0, .null, .int 0]))]) H := hP
  have hD : va_D (fun q : Nat => s.heap.size ≤ q) (fz_WC k u_1.1 u_1.2 (fun _ => none) fz_v0 ++ [(s_8, .inr (14, [.int 0, .null, .null, .null, .null, .int 0, .int 0, .int 0, .int 0, .int 0, .int 0, .int 0, .int 0, .int 0, .null, .int 0, .int 0, .int 0, .int 0, .int 0, .null, .int 0]))]) := hD
  refine lv_dup hx hb dL_law_11 rfl ?_
  have hPc := hP.sub (ws' := [(s_8, .inr (14, [.int 0, .null, .null, .null, .null, .int 0, .int 0, .int 0, .int 0, .int 0, .int 0, .int 0, .int 0, .int 0, .null, .int 0, .int 0, .int 0, .int 0, .int 0, .null, .int 0]))]) [38] rfl
  have hDc : va_D (va_A [(s_8, .inr (14, [.int 0, .null, .null, .null, .null, .int 0, .int 0, .int 0, .int 0, .int 0, .int 0, .int 0, .int 0, .int 0, .null, .int 0, .int 0, .int 0, .int 0, .int 0, .null, .int 0]))] H.size) [(s_8, .inr (14, [.int 0, .null, .null, .null, .null, .int 0, .int 0, .int 0, .int 0, .int 0, .int 0, .int 0, .int 0, .int 0, .null, .int 0, .int 0, .int 0, .int 0, .int 0, .null, .int 0]))] := (hD.sub (ws' := [(s_8, .inr (14, [.int 0, .null, .null, .null, .null, .int 0, .int 0, .int 0, .int 0, .int 0, .int 0, .int 0, .int 0, .int 0, .null, .int 0, .int 0, .int 0, .int 0, .int 0, .null, .int 0]))]) [38] (by decide) rfl).self
  have hFc := va_free (wc := [(s_8, .inr (14, [.int 0, .null, .null, .null, .null, .int 0, .int 0, .int 0, .int 0, .int 0, .int 0, .int 0, .int 0, .int 0, .null, .int 0, .int 0, .int 0, .int 0, .int 0, .null, .int 0]))]) hD hS hA [38] rfl
  refine fz_kI (As := []) (rest := [.ref s_8]) S0 (k_Model l (va_A [(s_8, .inr (14, [.int 0, .null, .null, .null, .null, .int 0, .int 0, .int 0, .int 0, .int 0, .int 0, .int 0, .int 0, .int 0, .null, .int 0, .int 0, .int 0, .int 0, .int 0, .null, .int 0]))] H.size) D k s_8) (cwI 0 hts9 (fz_g fm_1071) rfl rfl rfl (hts9 _ (fz_m fm_469)) (hts9 _ (fz_m fm_1072)) (hts9 _ (fz_m fm_1073)) rfl (by decide +kernel) ⟨Nat.le_of_ble_eq_true rfl, Nat.le_of_ble_eq_true rfl⟩) hFc (fun a9 h9 => Or.inr h9) hG hS hPc hK hDc rfl hl.1 rfl (Nat.le_of_ble_eq_true rfl) dL_law_12 ⟨Nat.le_of_ble_eq_true rfl, Nat.le_of_ble_eq_true rfl⟩ (fun u_2 H locs hw hz1 hk1 hP1 hD1 hS => ?_)
  obtain ⟨hP2, hD2⟩ := va_join (wr := fz_WC k u_1.1 u_1.2 (fun _ => none) fz_v0) (w1 := fz_WM k u_2.1 u_2.2.1 u_2.2.2 (fun _ => 0)) hP hD [38] [0, 1, 2, 3, 4, 5, 6, 7, 8, 9, 10, 11, 12, 13, 14, 15, 16, 17, 18, 19, 20, 21, 22, 23, 24, 25, 26, 27, 28, 29, 30, 31, 32, 33, 34, 35, 36, 37] rfl rfl (by decide) (by decide) hk1 hFc hP1 hD1
  obtain ⟨hq_2, hp_2, w_0, w_1, w_2, w_3, w_4, w_5, w_6, w_7, w_8, w_9, w_10, w_11, w_12, w_13, w_15, w_16, w_17, -⟩ := hw
  subst hq_2
  have hP : va_P D vwCl (fz_WC k u_1.1 u_1.2 (fun _ => none) fz_v0 ++ fz_WM k u_2.1 u_2.2.1 u_2.2.2 (fun _ => 0)) H := hP2
  have hD : va_D (fun q : Nat => s.heap.size ≤ q) (fz_WC k u_1.1 u_1.2 (fun _ => none) fz_v0 ++ fz_WM k u_2.1 u_2.2.1 u_2.2.2 (fun _ => 0)) := hD2
  refine lv_astore_n (lv' := [(2, .ref (u_2.1 0)), (1, .ref (u_1.1 31)), (0, .ref b)]) hx hb dL_law_15 rfl hl (by decide) rfl (fun ls hl => ?_)
  refine lv_iconst (v := 1) hx hb dL_law_16 (by decide) ?_
  refine fz_newa (atype := .long) (a0 := (1, .inr (.inl (fun _ => 0)))) hx hb (hts9 _ (fz_m fm_1074)) rfl hK 5 rfl hP hD hS hA (fun _ => rfl) (by decide) rfl (Nat.le_of_ble_eq_true rfl) (Nat.le_of_ble_eq_true rfl) (Nat.le_of_ble_eq_true rfl) dL_law_17 (fun o H hP hD hS => ?_)
  refine lv_astore_n (lv' := [(3, .ref o), (2, .ref (u_2.1 0)), (1, .ref (u_1.1 31)), (0, .ref b)]) hx hb dL_law_19 rfl hl (by decide) rfl (fun ls hl => ?_)
  refine lv_iconst (v := 1) hx hb dL_law_20 (by decide) ?_
  refine fz_newa (atype := .double) (a0 := (1, .inr (.inr (.inr (.inl (fun _ => 0)))))) hx hb (hts9 _ (fz_m fm_1075)) rfl hK 6 rfl hP hD hS hA (fun _ => rfl) (by decide) rfl (Nat.le_of_ble_eq_true rfl) (Nat.le_of_ble_eq_true rfl) (Nat.le_of_ble_eq_true rfl) dL_law_21 (fun o2 H hP hD hS => ?_)
  refine lv_astore (lv' := [(4, .ref o2), (3, .ref o), (2, .ref (u_2.1 0)), (1, .ref (u_1.1 31)), (0, .ref b)]) hx hb dL_law_23 hl (by decide) rfl (fun ls hl => ?_)
  refine lv_iconst (v := 0) hx hb dL_law_25 (by decide) ?_
  refine lv_istore (lv' := [(5, .int 0), (4, .ref o2), (3, .ref o), (2, .ref (u_2.1 0)), (1, .ref (u_1.1 31)), (0, .ref b)]) hx hb dL_law_26 hl (by decide) rfl (fun ls hl => ?_)
  have hP := hP.sub (ws' := (fz_WC k u_1.1 u_1.2 (fun _ => none) fz_v0 ++ ([(o, .inl (k 5, 1, .inr (.inl (fun _ => 0))))] ++ ([(o2, .inl (k 6, 1, .inr (.inr (.inr (.inl (fun _ => 0))))))] ++ (fz_WM k u_2.1 u_2.2.1 u_2.2.2 (fun _ => 0)))))) [0, 1, 2, 3, 4, 5, 6, 7, 8, 9, 10, 11, 12, 13, 14, 15, 16, 17, 18, 19, 20, 21, 22, 23, 24, 25, 26, 27, 28, 29, 30, 31, 32, 33, 34, 35, 36, 37, 46, 47, 38, 39, 40, 41, 42, 43, 44, 45] rfl
  have hD := hD.sub (ws' := (fz_WC k u_1.1 u_1.2 (fun _ => none) fz_v0 ++ ([(o, .inl (k 5, 1, .inr (.inl (fun _ => 0))))] ++ ([(o2, .inl (k 6, 1, .inr (.inr (.inr (.inl (fun _ => 0))))))] ++ (fz_WM k u_2.1 u_2.2.1 u_2.2.2 (fun _ => 0)))))) [0, 1, 2, 3, 4, 5, 6, 7, 8, 9, 10, 11, 12, 13, 14, 15, 16, 17, 18, 19, 20, 21, 22, 23, 24, 25, 26, 27, 28, 29, 30, 31, 32, 33, 34, 35, 36, 37, 46, 47, 38, 39, 40, 41, 42, 43, 44, 45] (by decide) rfl
  refine W.widen (k := 2000) (n := 400000) (Nat.le_of_ble_eq_true rfl) (Nat.le_of_ble_eq_true rfl) ?_
  exact lw_head hl0 hL C0 hG k hK u_1.1 u_2.1 u_1.2 u_2.2.1 (fun _ => none) u_2.2.2 fz_v0 (fun _ => 0) o o2 (fun _ => 0) (fun _ => 0) ⟨rfl, rfl, rfl, rfl, rfl, rfl, rfl, rfl, rfl, rfl, rfl, rfl, rfl, rfl, rfl, rfl, rfl, g_2_0, g_4_0, g_5_0, g_6_0, g_7_0, g_8_0, g_9_0, g_11_0, g_18_0, g_19_0, rfl, rfl, rfl, rfl, rfl, rfl, rfl, rfl, rfl, rfl, rfl, rfl, rfl, rfl, rfl, rfl, rfl, rfl, rfl, w_0, w_1, w_2, w_3, w_4, w_5, w_6, w_7, w_8, w_9, w_10, w_11, w_12, w_13, w_15, w_16, w_17, hp_2⟩ H locs hP hD hS ls hl

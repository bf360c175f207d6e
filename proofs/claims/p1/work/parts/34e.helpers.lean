set_option maxHeartbeats 4000000 in
set_option maxRecDepth 100000 in
theorem h_resolve (l : Launch) (hl0 : l.stackTraces = false) (A : Nat → Prop) (D : va_G) (k : Nat → ClassId) (q : Nat → Nat) (f : Nat → Nat → Int32) (pa : Nat → Option Nat) (v : Nat → Int32) (o : Nat) (g : (Nat → Int64)) (p0 p1 : Int32) (g_v_6 : v 6 = 0) (g_v_1 : v 1 = 1) (g_f_4_0 : f 4 0 = 0) :
    vx_Met l yL_resolve (Cond.codeWith yL_resolve cL_resolve 5 (some .int) [(0, 10, 13, 49)] :: fz_WA) { frames := 24, cells := 1, slots := 6, locals := 320 } (va_Pc [.ref (q 31), .int p0, .int p1, .ref o] (fz_PC A D (fz_tys k) (fz_WC k q f pa v ++ [(o, .inl (k 5, 1, .inr (.inl g)))]))) (fz_QI D A (fun (u : (Nat → Int64)) => [(o, .inl (k 5, 1, .inr (.inl u)))]) (fun (r : Int32) (u : (Nat → Int64)) => (r = 1 ∧ True))) (fz_XC (fun _ => False) A) 1 6 A := by
  refine fz_ofH (by decide +kernel) (Nat.le_of_ble_eq_true rfl) ?_
  intro p e s m below meth c hx hb hr hml hown hlocks hts htab hA hP hK hD hG hS ls hl
  have hown : s.vm.findClass RL = some m.cls := hown
  have S0 : CallFix p m c cL_resolve 5 s [.ref (q 31), .int p0, .int p1, .ref o].toArray (Cond.codeWith yL_resolve cL_resolve 5 (some .int) [(0, 10, 13, 49)] :: fz_WA) RL := ⟨hx, hb, hml, hown, hts⟩
  have hl : lv_has ls 5 [(0, .ref (q 31)), (1, .int p0), (2, .int p1), (3, .ref o)] := hl
  refine lv_aload_n hx hb dL_resolve_0 rfl (lv_at hl 3 rfl) ?_
  refine lv_iconst (v := 0) hx hb dL_resolve_1 (by decide) ?_
  refine lv_aload_n hx hb dL_resolve_2 rfl (lv_at hl 0 rfl) ?_
  refine lv_iload_n hx hb dL_resolve_3 rfl (lv_at hl 1 rfl) ?_
  refine lv_iload_n hx hb dL_resolve_4 rfl (lv_at hl 2 rfl) ?_
  have hPc : va_P D vwCl (fz_WC k q f pa v) s.heap := fz_left hP
  have hDc : va_D (va_A (fz_WC k q f pa v) s.heap.size) (fz_WC k q f pa v) := (fz_leftD hD).self
  have hFc := va_free (wc := (fz_WC k q f pa v)) hD hS hA [0, 1, 2, 3, 4, 5, 6, 7, 8, 9, 10, 11, 12, 13, 14, 15, 16, 17, 18, 19, 20, 21, 22, 23, 24, 25, 26, 27, 28, 29, 30, 31, 32, 33, 34, 35, 36, 37] rfl
  refine fz_hVi (As := [.int p0, .int p1]) (rest := [.int 0, .ref o]) S0 (c_resolve l hl0 (va_A (fz_WC k q f pa v) s.heap.size) D k q f pa v p0 p1 g_v_6 g_v_1 g_f_4_0) (fz_cwV (C := RX9) 2 hts fm_1037 fm_1038 fm_1039 fm_1040 fm_6 rfl rfl ⟨by decide, by decide, by decide +kernel⟩ ⟨Nat.le_of_ble_eq_true rfl, Nat.le_of_ble_eq_true rfl⟩) (va_recv hK hP (ci := 13) (q0 := 31) rfl rfl) hFc (fun a9 h9 => Or.inr h9) hG hS hPc hK hDc rfl hl.1 rfl (Nat.le_of_ble_eq_true rfl) dL_resolve_5 ⟨Nat.le_of_ble_eq_true rfl, Nat.le_of_ble_eq_true rfl⟩ (fun E9 ce q9 H locs hE hz1 hk1 hS h1 h2 h3 => ?_) (fun r u H locs hw hz1 hk1 hP1 hS => ?_)
  · obtain ⟨hPo, hDo⟩ := va_join (wr := [(o, .inl (k 5, 1, .inr (.inl g)))]) (w1 := []) hP hD [0, 1, 2, 3, 4, 5, 6, 7, 8, 9, 10, 11, 12, 13, 14, 15, 16, 17, 18, 19, 20, 21, 22, 23, 24, 25, 26, 27, 28, 29, 30, 31, 32, 33, 34, 35, 36, 37] [38] rfl rfl (by decide) (by decide) hk1 hFc fz_nil fz_nilD
    have hPo : va_P D vwCl [(o, .inl (k 5, 1, .inr (.inl g)))] H := hPo
    rcases hE with ⟨rfl, hc9⟩
    · refine vx_catch (own := RL) (name := "java/util/NoSuchElementException") hown [] ⟨0, 10, 13, 49⟩ [] (htab.trans rfl) (fun z hz => by cases hz) (by decide) (by decide) (hts _ (fz_m fm_1042)) (fz_cast hG fm_1041) h1 h2 h3 ?_
      refine lv_astore (lv' := [(4, .ref q9), (0, .ref (q 31)), (1, .int p0), (2, .int p1), (3, .ref o)]) hx hb dL_resolve_13 hl (by decide) rfl (fun ls hl => ?_)
      refine lv_iconst (v := 1) hx hb dL_resolve_15 (by decide) ?_
      exact vx_ret (fz_iret hx hb hr rfl hlocks hS dL_resolve_16 g ⟨rfl, trivial⟩ hPo (Nat.le_of_ble_eq_true rfl) (Nat.le_of_ble_eq_true rfl))
  · obtain ⟨hPo, hDo⟩ := va_join (wr := [(o, .inl (k 5, 1, .inr (.inl g)))]) (w1 := []) hP hD [0, 1, 2, 3, 4, 5, 6, 7, 8, 9, 10, 11, 12, 13, 14, 15, 16, 17, 18, 19, 20, 21, 22, 23, 24, 25, 26, 27, 28, 29, 30, 31, 32, 33, 34, 35, 36, 37] [38] rfl rfl (by decide) (by decide) hk1 hFc hP1 fz_nilD
    have hPo : va_P D vwCl [(o, .inl (k 5, 1, .inr (.inl g)))] H := hPo
    have hDo : va_D A [(o, .inl (k 5, 1, .inr (.inl g)))] := hDo
    exact (show False from hw).elim

set_option maxHeartbeats 4000000 in
set_option maxRecDepth 100000 in
theorem h_report (l : Launch) (hl0 : l.stackTraces = false) (A : Nat → Prop) (D : va_G) (k : Nat → ClassId) (q : Nat → Nat) (f : Nat → Nat → Int32) (pa : Nat → Option Nat) (v : Nat → Int32) (o : Nat) (g : (Nat → Int64)) (p0 p1 : Int32) (g_v_11 : v 11 = 0) :
    vx_Met l yL_report (Cond.codeWith yL_report cL_report 5 (some .int) [(0, 10, 13, 49), (0, 10, 17, 15)] :: fz_WA) { frames := 24, cells := 1, slots := 6, locals := 320 } (va_Pc [.ref (q 31), .int p0, .int p1, .ref o] (fz_PC A D (fz_tys k) (fz_WC k q f pa v ++ [(o, .inl (k 5, 1, .inr (.inl g)))]))) (fz_QI D A (fun (u : (Nat → Int64)) => [(o, .inl (k 5, 1, .inr (.inl u)))]) (fun (r : Int32) (u : (Nat → Int64)) => (r = 1 ∧ True))) (fz_XC (fun _ => False) A) 1 6 A := by
  refine fz_ofH (by decide +kernel) (Nat.le_of_ble_eq_true rfl) ?_
  intro p e s m below meth c hx hb hr hml hown hlocks hts htab hA hP hK hD hG hS ls hl
  have hown : s.vm.findClass RL = some m.cls := hown
  have S0 : CallFix p m c cL_report 5 s [.ref (q 31), .int p0, .int p1, .ref o].toArray (Cond.codeWith yL_report cL_report 5 (some .int) [(0, 10, 13, 49), (0, 10, 17, 15)] :: fz_WA) RL := ⟨hx, hb, hml, hown, hts⟩
  have hl : lv_has ls 5 [(0, .ref (q 31)), (1, .int p0), (2, .int p1), (3, .ref o)] := hl
  refine lv_aload_n hx hb dL_report_0 rfl (lv_at hl 3 rfl) ?_
  refine lv_iconst (v := 0) hx hb dL_report_1 (by decide) ?_
  refine lv_aload_n hx hb dL_report_2 rfl (lv_at hl 0 rfl) ?_
  refine lv_iload_n hx hb dL_report_3 rfl (lv_at hl 1 rfl) ?_
  refine lv_iload_n hx hb dL_report_4 rfl (lv_at hl 2 rfl) ?_
  have hPc : va_P D vwCl (fz_WC k q f pa v) s.heap := fz_left hP
  have hDc : va_D (va_A (fz_WC k q f pa v) s.heap.size) (fz_WC k q f pa v) := (fz_leftD hD).self
  have hFc := va_free (wc := (fz_WC k q f pa v)) hD hS hA [0, 1, 2, 3, 4, 5, 6, 7, 8, 9, 10, 11, 12, 13, 14, 15, 16, 17, 18, 19, 20, 21, 22, 23, 24, 25, 26, 27, 28, 29, 30, 31, 32, 33, 34, 35, 36, 37] rfl
  refine fz_hVi (As := [.int p0, .int p1]) (rest := [.int 0, .ref o]) S0 (c_report l hl0 (va_A (fz_WC k q f pa v) s.heap.size) D k q f pa v p0 p1 g_v_11) (fz_cwV (C := RX9) 2 hts fm_1044 fm_1045 fm_1046 fm_1047 fm_6 rfl rfl ⟨by decide, by decide, by decide +kernel⟩ ⟨Nat.le_of_ble_eq_true rfl, Nat.le_of_ble_eq_true rfl⟩) (va_recv hK hP (ci := 13) (q0 := 31) rfl rfl) hFc (fun a9 h9 => Or.inr h9) hG hS hPc hK hDc rfl hl.1 rfl (Nat.le_of_ble_eq_true rfl) dL_report_5 ⟨Nat.le_of_ble_eq_true rfl, Nat.le_of_ble_eq_true rfl⟩ (fun E9 ce q9 H locs hE hz1 hk1 hS h1 h2 h3 => ?_) (fun r u H locs hw hz1 hk1 hP1 hS => ?_)
  · obtain ⟨hPo, hDo⟩ := va_join (wr := [(o, .inl (k 5, 1, .inr (.inl g)))]) (w1 := []) hP hD [0, 1, 2, 3, 4, 5, 6, 7, 8, 9, 10, 11, 12, 13, 14, 15, 16, 17, 18, 19, 20, 21, 22, 23, 24, 25, 26, 27, 28, 29, 30, 31, 32, 33, 34, 35, 36, 37] [38] rfl rfl (by decide) (by decide) hk1 hFc fz_nil fz_nilD
    have hPo : va_P D vwCl [(o, .inl (k 5, 1, .inr (.inl g)))] H := hPo
    rcases hE with ⟨rfl, hc9⟩
    · refine vx_catch (own := RL) (name := "java/util/NoSuchElementException") hown [] ⟨0, 10, 13, 49⟩ [⟨0, 10, 17, 15⟩] (htab.trans rfl) (fun z hz => by cases hz) (by decide) (by decide) (hts _ (fz_m fm_1042)) (fz_cast hG fm_1041) h1 h2 h3 ?_
      refine lv_astore (lv' := [(4, .ref q9), (0, .ref (q 31)), (1, .int p0), (2, .int p1), (3, .ref o)]) hx hb dL_report_13 hl (by decide) rfl (fun ls hl => ?_)
      refine lv_iconst (v := 1) hx hb dL_report_15 (by decide) ?_
      exact vx_ret (fz_iret hx hb hr rfl hlocks hS dL_report_16 g ⟨rfl, trivial⟩ hPo (Nat.le_of_ble_eq_true rfl) (Nat.le_of_ble_eq_true rfl))
  · obtain ⟨hPo, hDo⟩ := va_join (wr := [(o, .inl (k 5, 1, .inr (.inl g)))]) (w1 := []) hP hD [0, 1, 2, 3, 4, 5, 6, 7, 8, 9, 10, 11, 12, 13, 14, 15, 16, 17, 18, 19, 20, 21, 22, 23, 24, 25, 26, 27, 28, 29, 30, 31, 32, 33, 34, 35, 36, 37] [38] rfl rfl (by decide) (by decide) hk1 hFc hP1 fz_nilD
    have hPo : va_P D vwCl [(o, .inl (k 5, 1, .inr (.inl g)))] H := hPo
    have hDo : va_D A [(o, .inl (k 5, 1, .inr (.inl g)))] := hDo
    exact (show False from hw).elim

set_option maxHeartbeats 4000000 in
set_option maxRecDepth 100000 in
theorem h_add (l : Launch) (hl0 : l.stackTraces = false) (A : Nat → Prop) (D : va_G) (k : Nat → ClassId) (q : Nat → Nat) (f : Nat → Nat → Int32) (pa : Nat → Option Nat) (v : Nat → Int32) (o : Nat) (g : (Nat → Int64)) (p0 p1 p2 p3 p4 : Int32) (g_v_1 : v 1 = 1) (g_f_4_0 : f 4 0 = 0) (g_v_9 : v 9 = 0) (g_v_2 : v 2 = 1) (g_v_3 : v 3 = 0) (g_v_4 : v 4 = 0) (g_v_5 : v 5 = 0) (g_v_6 : v 6 = 0) (g_v_7 : v 7 = 0) (g_v_8 : v 8 = 0) (g_v_0 : v 0 = 3) (g_v_10 : v 10 = 0) (g_pa_1 : pa 1 = none) (g_f_6_0 : f 6 0 = 0) (g_f_5_0 : f 5 0 = (-1)) :
    vx_Met l yL_add (Cond.codeWith yL_add cL_add 8 (some .int) [(0, 16, 19, 13), (0, 16, 23, 15), (0, 16, 27, 17)] :: fz_WA) { frames := 72, cells := 32, slots := 1705, locals := 960 } (va_Pc [.ref (q 31), .int p0, .int p1, .int p2, .int p3, .int p4, .ref o] (fz_PC A D (fz_tys k) (fz_WC k q f pa v ++ [(o, .inl (k 5, 1, .inr (.inl g)))]))) (fz_QI D A (fun (u : (Nat → Int64)) => [(o, .inl (k 5, 1, .inr (.inl u)))]) (fun (r : Int32) (u : (Nat → Int64)) => (r = 0 ∧ u 0 = (1 : Int32).toInt64 ∧ (p0 = 0 ∧ ((1 ≤ p1 ∧ p1 ≤ 3) ∧ 0 ≤ p2 ∧ ((p1 = 1 ∧ p2 ≤ 0) ∨ (¬ (p1 = 1) ∧ p2 ≤ 20)) ∧ (p3 = (-1) ∨ ((0 ≤ p3 ∧ p3 ≤ 9999) ∧ (0 ≤ p4 ∧ p4 ≤ 9999) ∧ p3 ≤ p4))))) ∨ (r = 1 ∧ ¬ (p0 = 0)) ∨ (r = 2 ∧ (p0 = 0 ∧ ¬ (((1 ≤ p1 ∧ p1 ≤ 3) ∧ 0 ≤ p2 ∧ ((p1 = 1 ∧ p2 ≤ 0) ∨ (¬ (p1 = 1) ∧ p2 ≤ 20)) ∧ (p3 = (-1) ∨ ((0 ≤ p3 ∧ p3 ≤ 9999) ∧ (0 ≤ p4 ∧ p4 ≤ 9999) ∧ p3 ≤ p4)))))) ∨ (r = 3 ∧ False))) (fz_XC (fun _ => False) A) 32 1705 A := by
  refine fz_ofH (by decide +kernel) (Nat.le_of_ble_eq_true rfl) ?_
  intro p e s m below meth c hx hb hr hml hown hlocks hts htab hA hP hK hD hG hS ls hl
  have hown : s.vm.findClass RL = some m.cls := hown
  have S0 : CallFix p m c cL_add 8 s [.ref (q 31), .int p0, .int p1, .int p2, .int p3, .int p4, .ref o].toArray (Cond.codeWith yL_add cL_add 8 (some .int) [(0, 16, 19, 13), (0, 16, 23, 15), (0, 16, 27, 17)] :: fz_WA) RL := ⟨hx, hb, hml, hown, hts⟩
  have hl : lv_has ls 8 [(0, .ref (q 31)), (1, .int p0), (2, .int p1), (3, .int p2), (4, .int p3), (5, .int p4), (6, .ref o)] := hl
  refine lv_aload hx hb dL_add_0 (lv_at hl 6 rfl) ?_
  refine lv_iconst (v := 0) hx hb dL_add_2 (by decide) ?_
  refine lv_aload_n hx hb dL_add_3 rfl (lv_at hl 0 rfl) ?_
  refine lv_iload_n hx hb dL_add_4 rfl (lv_at hl 1 rfl) ?_
  refine lv_iload_n hx hb dL_add_5 rfl (lv_at hl 2 rfl) ?_
  refine lv_iload_n hx hb dL_add_6 rfl (lv_at hl 3 rfl) ?_
  refine lv_iload hx hb dL_add_7 (lv_at hl 4 rfl) ?_
  refine lv_iload hx hb dL_add_9 (lv_at hl 5 rfl) ?_
  have hPc : va_P D vwCl (fz_WC k q f pa v) s.heap := fz_left hP
  have hDc : va_D (va_A (fz_WC k q f pa v) s.heap.size) (fz_WC k q f pa v) := (fz_leftD hD).self
  have hFc := va_free (wc := (fz_WC k q f pa v)) hD hS hA [0, 1, 2, 3, 4, 5, 6, 7, 8, 9, 10, 11, 12, 13, 14, 15, 16, 17, 18, 19, 20, 21, 22, 23, 24, 25, 26, 27, 28, 29, 30, 31, 32, 33, 34, 35, 36, 37] rfl
  refine fz_hVi (As := [.int p0, .int p1, .int p2, .int p3, .int p4]) (rest := [.int 0, .ref o]) S0 (c_add l hl0 (va_A (fz_WC k q f pa v) s.heap.size) D k q f pa v p0 p1 p2 p3 p4 g_v_1 g_f_4_0 g_v_9 g_v_2 g_v_3 g_v_4 g_v_5 g_v_6 g_v_7 g_v_8 g_v_0 g_v_10 g_pa_1 g_f_6_0 g_f_5_0) (fz_cwV (C := RX9) 5 hts fm_649 fm_650 fm_651 fm_652 fm_6 rfl rfl ⟨by decide, by decide, by decide +kernel⟩ ⟨Nat.le_of_ble_eq_true rfl, Nat.le_of_ble_eq_true rfl⟩) (va_recv hK hP (ci := 13) (q0 := 31) rfl rfl) hFc (fun a9 h9 => Or.inr h9) hG hS hPc hK hDc rfl hl.1 rfl (Nat.le_of_ble_eq_true rfl) dL_add_11 ⟨Nat.le_of_ble_eq_true rfl, Nat.le_of_ble_eq_true rfl⟩ (fun E9 ce q9 H locs hE hz1 hk1 hS h1 h2 h3 => ?_) (fun r u H locs hw hz1 hk1 hP1 hS => ?_)
  · obtain ⟨hPo, hDo⟩ := va_join (wr := [(o, .inl (k 5, 1, .inr (.inl g)))]) (w1 := []) hP hD [0, 1, 2, 3, 4, 5, 6, 7, 8, 9, 10, 11, 12, 13, 14, 15, 16, 17, 18, 19, 20, 21, 22, 23, 24, 25, 26, 27, 28, 29, 30, 31, 32, 33, 34, 35, 36, 37] [38] rfl rfl (by decide) (by decide) hk1 hFc fz_nil fz_nilD
    have hPo : va_P D vwCl [(o, .inl (k 5, 1, .inr (.inl g)))] H := hPo
    rcases hE with ⟨rfl, hc9⟩ | ⟨rfl, hc9⟩ | ⟨rfl, hc9⟩
    · refine vx_catch (own := RL) (name := "java/lang/IndexOutOfBoundsException") hown [] ⟨0, 16, 19, 13⟩ [⟨0, 16, 23, 15⟩, ⟨0, 16, 27, 17⟩] (htab.trans rfl) (fun z hz => by cases hz) (by decide) (by decide) (hts _ (fz_m fm_654)) (fz_cast hG fm_653) h1 h2 h3 ?_
      refine lv_astore (lv' := [(7, .ref q9), (0, .ref (q 31)), (1, .int p0), (2, .int p1), (3, .int p2), (4, .int p3), (5, .int p4), (6, .ref o)]) hx hb dL_add_19 hl (by decide) rfl (fun ls hl => ?_)
      refine lv_iconst (v := 1) hx hb dL_add_21 (by decide) ?_
      exact vx_ret (fz_iret hx hb hr rfl hlocks hS dL_add_22 g (Or.inr (Or.inl ⟨rfl, hc9⟩)) hPo (Nat.le_of_ble_eq_true rfl) (Nat.le_of_ble_eq_true rfl))
    · refine vx_catch (own := RL) (name := "java/lang/IllegalArgumentException") hown [⟨0, 16, 19, 13⟩] ⟨0, 16, 23, 15⟩ [⟨0, 16, 27, 17⟩] (htab.trans rfl) (List.forall_mem_cons.mpr ⟨Or.inr ⟨by decide, "java/lang/IndexOutOfBoundsException", hts _ (fz_m fm_654), hG.2.2.2.2.2.1 ("java/lang/IllegalArgumentException", "java/lang/IndexOutOfBoundsException") (by decide)⟩, (fun z hz => by cases hz)⟩) (by decide) (by decide) (hts _ (fz_m fm_656)) (fz_cast hG fm_655) h1 h2 h3 ?_
      refine lv_astore (lv' := [(7, .ref q9), (0, .ref (q 31)), (1, .int p0), (2, .int p1), (3, .int p2), (4, .int p3), (5, .int p4), (6, .ref o)]) hx hb dL_add_23 hl (by decide) rfl (fun ls hl => ?_)
      refine lv_iconst (v := 2) hx hb dL_add_25 (by decide) ?_
      exact vx_ret (fz_iret hx hb hr rfl hlocks hS dL_add_26 g (Or.inr (Or.inr (Or.inl ⟨rfl, hc9⟩))) hPo (Nat.le_of_ble_eq_true rfl) (Nat.le_of_ble_eq_true rfl))
    · exact hc9.elim
  · obtain ⟨hPo, hDo⟩ := va_join (wr := [(o, .inl (k 5, 1, .inr (.inl g)))]) (w1 := []) hP hD [0, 1, 2, 3, 4, 5, 6, 7, 8, 9, 10, 11, 12, 13, 14, 15, 16, 17, 18, 19, 20, 21, 22, 23, 24, 25, 26, 27, 28, 29, 30, 31, 32, 33, 34, 35, 36, 37] [38] rfl rfl (by decide) (by decide) hk1 hFc hP1 fz_nilD
    have hPo : va_P D vwCl [(o, .inl (k 5, 1, .inr (.inl g)))] H := hPo
    have hDo : va_D A [(o, .inl (k 5, 1, .inr (.inl g)))] := hDo
    obtain ⟨rfl, hc9⟩ := hw
    refine lv_i2l hx hb dL_add_14 rfl ?_
    refine va_last hx hb hK hPo hDo hS 0 5 rfl rfl (fz_vin (by decide)) dL_add_15 (fun H locs hPo hDo hS => ?_)
    refine lv_goto (tgt := 31) hx hb dL_add_16 (by decide) ?_
    refine lv_iconst (v := 0) hx hb dL_add_31 (by decide) ?_
    exact vx_ret (fz_iret hx hb hr rfl hlocks hS dL_add_32 (vp_updL g (0 : Int32).toNatClampNeg (1 : Int32).toInt64) (Or.inl ⟨rfl, rfl, hc9⟩) hPo (Nat.le_of_ble_eq_true rfl) (Nat.le_of_ble_eq_true rfl))

set_option maxHeartbeats 4000000 in
set_option maxRecDepth 100000 in
theorem h_remove (l : Launch) (hl0 : l.stackTraces = false) (A : Nat → Prop) (D : va_G) (k : Nat → ClassId) (q : Nat → Nat) (f : Nat → Nat → Int32) (pa : Nat → Option Nat) (v : Nat → Int32) (o : Nat) (g : (Nat → Int64)) (p0 : Int32) (g_v_1 : v 1 = 1) (g_f_4_0 : f 4 0 = 0) :
    vx_Met l yL_remove (Cond.codeWith yL_remove cL_remove 4 (some .int) [(0, 9, 12, 13), (0, 9, 15, 15)] :: fz_WA) { frames := 36, cells := 2, slots := 12, locals := 480 } (va_Pc [.ref (q 31), .int p0, .ref o] (fz_PC A D (fz_tys k) (fz_WC k q f pa v ++ [(o, .inl (k 5, 1, .inr (.inl g)))]))) (fz_QI D A (fun (u : (Nat → Int64)) => [(o, .inl (k 5, 1, .inr (.inl u)))]) (fun (r : Int32) (u : (Nat → Int64)) => (r = 1 ∧ ¬ (p0 = 0)) ∨ (r = 2 ∧ p0 = 0))) (fz_XC (fun _ => False) A) 2 12 A := by
  refine fz_ofH (by decide +kernel) (Nat.le_of_ble_eq_true rfl) ?_
  intro p e s m below meth c hx hb hr hml hown hlocks hts htab hA hP hK hD hG hS ls hl
  have hown : s.vm.findClass RL = some m.cls := hown
  have S0 : CallFix p m c cL_remove 4 s [.ref (q 31), .int p0, .ref o].toArray (Cond.codeWith yL_remove cL_remove 4 (some .int) [(0, 9, 12, 13), (0, 9, 15, 15)] :: fz_WA) RL := ⟨hx, hb, hml, hown, hts⟩
  have hl : lv_has ls 4 [(0, .ref (q 31)), (1, .int p0), (2, .ref o)] := hl
  refine lv_aload_n hx hb dL_remove_0 rfl (lv_at hl 2 rfl) ?_
  refine lv_iconst (v := 0) hx hb dL_remove_1 (by decide) ?_
  refine lv_aload_n hx hb dL_remove_2 rfl (lv_at hl 0 rfl) ?_
  refine lv_iload_n hx hb dL_remove_3 rfl (lv_at hl 1 rfl) ?_
  have hPc : va_P D vwCl (fz_WC k q f pa v) s.heap := fz_left hP
  have hDc : va_D (va_A (fz_WC k q f pa v) s.heap.size) (fz_WC k q f pa v) := (fz_leftD hD).self
  have hFc := va_free (wc := (fz_WC k q f pa v)) hD hS hA [0, 1, 2, 3, 4, 5, 6, 7, 8, 9, 10, 11, 12, 13, 14, 15, 16, 17, 18, 19, 20, 21, 22, 23, 24, 25, 26, 27, 28, 29, 30, 31, 32, 33, 34, 35, 36, 37] rfl
  refine fz_hVi (As := [.int p0]) (rest := [.int 0, .ref o]) S0 (c_remove l hl0 (va_A (fz_WC k q f pa v) s.heap.size) D k q f pa v p0 g_v_1 g_f_4_0) (fz_cwV (C := RX9) 1 hts fm_658 fm_659 fm_660 fm_661 fm_6 rfl rfl ⟨by decide, by decide, by decide +kernel⟩ ⟨Nat.le_of_ble_eq_true rfl, Nat.le_of_ble_eq_true rfl⟩) (va_recv hK hP (ci := 13) (q0 := 31) rfl rfl) hFc (fun a9 h9 => Or.inr h9) hG hS hPc hK hDc rfl hl.1 rfl (Nat.le_of_ble_eq_true rfl) dL_remove_4 ⟨Nat.le_of_ble_eq_true rfl, Nat.le_of_ble_eq_true rfl⟩ (fun E9 ce q9 H locs hE hz1 hk1 hS h1 h2 h3 => ?_) (fun r u H locs hw hz1 hk1 hP1 hS => ?_)
  · obtain ⟨hPo, hDo⟩ := va_join (wr := [(o, .inl (k 5, 1, .inr (.inl g)))]) (w1 := []) hP hD [0, 1, 2, 3, 4, 5, 6, 7, 8, 9, 10, 11, 12, 13, 14, 15, 16, 17, 18, 19, 20, 21, 22, 23, 24, 25, 26, 27, 28, 29, 30, 31, 32, 33, 34, 35, 36, 37] [38] rfl rfl (by decide) (by decide) hk1 hFc fz_nil fz_nilD
    have hPo : va_P D vwCl [(o, .inl (k 5, 1, .inr (.inl g)))] H := hPo
    rcases hE with ⟨rfl, hc9⟩ | ⟨rfl, hc9⟩
    · refine vx_catch (own := RL) (name := "java/lang/IndexOutOfBoundsException") hown [] ⟨0, 9, 12, 13⟩ [⟨0, 9, 15, 15⟩] (htab.trans rfl) (fun z hz => by cases hz) (by decide) (by decide) (hts _ (fz_m fm_654)) (fz_cast hG fm_653) h1 h2 h3 ?_
      refine lv_astore_n (lv' := [(3, .ref q9), (0, .ref (q 31)), (1, .int p0), (2, .ref o)]) hx hb dL_remove_12 rfl hl (by decide) rfl (fun ls hl => ?_)
      refine lv_iconst (v := 1) hx hb dL_remove_13 (by decide) ?_
      exact vx_ret (fz_iret hx hb hr rfl hlocks hS dL_remove_14 g (Or.inl ⟨rfl, hc9⟩) hPo (Nat.le_of_ble_eq_true rfl) (Nat.le_of_ble_eq_true rfl))
    · refine vx_catch (own := RL) (name := "java/lang/IllegalArgumentException") hown [⟨0, 9, 12, 13⟩] ⟨0, 9, 15, 15⟩ [] (htab.trans rfl) (List.forall_mem_cons.mpr ⟨Or.inr ⟨by decide, "java/lang/IndexOutOfBoundsException", hts _ (fz_m fm_654), hG.2.2.2.2.2.1 ("java/lang/IllegalArgumentException", "java/lang/IndexOutOfBoundsException") (by decide)⟩, (fun z hz => by cases hz)⟩) (by decide) (by decide) (hts _ (fz_m fm_656)) (fz_cast hG fm_655) h1 h2 h3 ?_
      refine lv_astore_n (lv' := [(3, .ref q9), (0, .ref (q 31)), (1, .int p0), (2, .ref o)]) hx hb dL_remove_15 rfl hl (by decide) rfl (fun ls hl => ?_)
      refine lv_iconst (v := 2) hx hb dL_remove_16 (by decide) ?_
      exact vx_ret (fz_iret hx hb hr rfl hlocks hS dL_remove_17 g (Or.inr ⟨rfl, hc9⟩) hPo (Nat.le_of_ble_eq_true rfl) (Nat.le_of_ble_eq_true rfl))
  · obtain ⟨hPo, hDo⟩ := va_join (wr := [(o, .inl (k 5, 1, .inr (.inl g)))]) (w1 := []) hP hD [0, 1, 2, 3, 4, 5, 6, 7, 8, 9, 10, 11, 12, 13, 14, 15, 16, 17, 18, 19, 20, 21, 22, 23, 24, 25, 26, 27, 28, 29, 30, 31, 32, 33, 34, 35, 36, 37] [38] rfl rfl (by decide) (by decide) hk1 hFc hP1 fz_nilD
    have hPo : va_P D vwCl [(o, .inl (k 5, 1, .inr (.inl g)))] H := hPo
    have hDo : va_D A [(o, .inl (k 5, 1, .inr (.inl g)))] := hDo
    exact (show False from hw).elim

set_option maxHeartbeats 4000000 in
set_option maxRecDepth 100000 in
theorem h_move (l : Launch) (hl0 : l.stackTraces = false) (A : Nat → Prop) (D : va_G) (k : Nat → ClassId) (q : Nat → Nat) (f : Nat → Nat → Int32) (pa : Nat → Option Nat) (v : Nat → Int32) (o : Nat) (g : (Nat → Int64)) (p0 p1 : Int32) (g_v_1 : v 1 = 1) (g_f_4_0 : f 4 0 = 0) :
    vx_Met l yL_move (Cond.codeWith yL_move cL_move 5 (some .int) [(0, 10, 13, 13), (0, 10, 17, 15)] :: fz_WA) { frames := 36, cells := 3, slots := 18, locals := 480 } (va_Pc [.ref (q 31), .int p0, .int p1, .ref o] (fz_PC A D (fz_tys k) (fz_WC k q f pa v ++ [(o, .inl (k 5, 1, .inr (.inl g)))]))) (fz_QI D A (fun (u : (Nat → Int64)) => [(o, .inl (k 5, 1, .inr (.inl u)))]) (fun (r : Int32) (u : (Nat → Int64)) => (r = 1 ∧ (¬ (p0 = 0) ∨ ¬ (p1 = 0))) ∨ (r = 2 ∧ (p0 = 0 ∧ p1 = 0)))) (fz_XC (fun _ => False) A) 3 18 A := by
  refine fz_ofH (by decide +kernel) (Nat.le_of_ble_eq_true rfl) ?_
  intro p e s m below meth c hx hb hr hml hown hlocks hts htab hA hP hK hD hG hS ls hl
  have hown : s.vm.findClass RL = some m.cls := hown
  have S0 : CallFix p m c cL_move 5 s [.ref (q 31), .int p0, .int p1, .ref o].toArray (Cond.codeWith yL_move cL_move 5 (some .int) [(0, 10, 13, 13), (0, 10, 17, 15)] :: fz_WA) RL := ⟨hx, hb, hml, hown, hts⟩
  have hl : lv_has ls 5 [(0, .ref (q 31)), (1, .int p0), (2, .int p1), (3, .ref o)] := hl
  refine lv_aload_n hx hb dL_move_0 rfl (lv_at hl 3 rfl) ?_
  refine lv_iconst (v := 0) hx hb dL_move_1 (by decide) ?_
  refine lv_aload_n hx hb dL_move_2 rfl (lv_at hl 0 rfl) ?_
  refine lv_iload_n hx hb dL_move_3 rfl (lv_at hl 1 rfl) ?_
  refine lv_iload_n hx hb dL_move_4 rfl (lv_at hl 2 rfl) ?_
  have hPc : va_P D vwCl (fz_WC k q f pa v) s.heap := fz_left hP
  have hDc : va_D (va_A (fz_WC k q f pa v) s.heap.size) (fz_WC k q f pa v) := (fz_leftD hD).self
  have hFc := va_free (wc := (fz_WC k q f pa v)) hD hS hA [0, 1, 2, 3, 4, 5, 6, 7, 8, 9, 10, 11, 12, 13, 14, 15, 16, 17, 18, 19, 20, 21, 22, 23, 24, 25, 26, 27, 28, 29, 30, 31, 32, 33, 34, 35, 36, 37] rfl
  refine fz_hVi (As := [.int p0, .int p1]) (rest := [.int 0, .ref o]) S0 (c_move l hl0 (va_A (fz_WC k q f pa v) s.heap.size) D k q f pa v p0 p1 g_v_1 g_f_4_0) (fz_cwV (C := RX9) 2 hts fm_663 fm_664 fm_665 fm_666 fm_6 rfl rfl ⟨by decide, by decide, by decide +kernel⟩ ⟨Nat.le_of_ble_eq_true rfl, Nat.le_of_ble_eq_true rfl⟩) (va_recv hK hP (ci := 13) (q0 := 31) rfl rfl) hFc (fun a9 h9 => Or.inr h9) hG hS hPc hK hDc rfl hl.1 rfl (Nat.le_of_ble_eq_true rfl) dL_move_5 ⟨Nat.le_of_ble_eq_true rfl, Nat.le_of_ble_eq_true rfl⟩ (fun E9 ce q9 H locs hE hz1 hk1 hS h1 h2 h3 => ?_) (fun r u H locs hw hz1 hk1 hP1 hS => ?_)
  · obtain ⟨hPo, hDo⟩ := va_join (wr := [(o, .inl (k 5, 1, .inr (.inl g)))]) (w1 := []) hP hD [0, 1, 2, 3, 4, 5, 6, 7, 8, 9, 10, 11, 12, 13, 14, 15, 16, 17, 18, 19, 20, 21, 22, 23, 24, 25, 26, 27, 28, 29, 30, 31, 32, 33, 34, 35, 36, 37] [38] rfl rfl (by decide) (by decide) hk1 hFc fz_nil fz_nilD
    have hPo : va_P D vwCl [(o, .inl (k 5, 1, .inr (.inl g)))] H := hPo
    rcases hE with ⟨rfl, hc9⟩ | ⟨rfl, hc9⟩
    · refine vx_catch (own := RL) (name := "java/lang/IndexOutOfBoundsException") hown [] ⟨0, 10, 13, 13⟩ [⟨0, 10, 17, 15⟩] (htab.trans rfl) (fun z hz => by cases hz) (by decide) (by decide) (hts _ (fz_m fm_654)) (fz_cast hG fm_653) h1 h2 h3 ?_
      refine lv_astore (lv' := [(4, .ref q9), (0, .ref (q 31)), (1, .int p0), (2, .int p1), (3, .ref o)]) hx hb dL_move_13 hl (by decide) rfl (fun ls hl => ?_)
      refine lv_iconst (v := 1) hx hb dL_move_15 (by decide) ?_
      exact vx_ret (fz_iret hx hb hr rfl hlocks hS dL_move_16 g (Or.inl ⟨rfl, hc9⟩) hPo (Nat.le_of_ble_eq_true rfl) (Nat.le_of_ble_eq_true rfl))
    · refine vx_catch (own := RL) (name := "java/lang/IllegalArgumentException") hown [⟨0, 10, 13, 13⟩] ⟨0, 10, 17, 15⟩ [] (htab.trans rfl) (List.forall_mem_cons.mpr ⟨Or.inr ⟨by decide, "java/lang/IndexOutOfBoundsException", hts _ (fz_m fm_654), hG.2.2.2.2.2.1 ("java/lang/IllegalArgumentException", "java/lang/IndexOutOfBoundsException") (by decide)⟩, (fun z hz => by cases hz)⟩) (by decide) (by decide) (hts _ (fz_m fm_656)) (fz_cast hG fm_655) h1 h2 h3 ?_
      refine lv_astore (lv' := [(4, .ref q9), (0, .ref (q 31)), (1, .int p0), (2, .int p1), (3, .ref o)]) hx hb dL_move_17 hl (by decide) rfl (fun ls hl => ?_)
      refine lv_iconst (v := 2) hx hb dL_move_19 (by decide) ?_
      exact vx_ret (fz_iret hx hb hr rfl hlocks hS dL_move_20 g (Or.inr ⟨rfl, hc9⟩) hPo (Nat.le_of_ble_eq_true rfl) (Nat.le_of_ble_eq_true rfl))
  · obtain ⟨hPo, hDo⟩ := va_join (wr := [(o, .inl (k 5, 1, .inr (.inl g)))]) (w1 := []) hP hD [0, 1, 2, 3, 4, 5, 6, 7, 8, 9, 10, 11, 12, 13, 14, 15, 16, 17, 18, 19, 20, 21, 22, 23, 24, 25, 26, 27, 28, 29, 30, 31, 32, 33, 34, 35, 36, 37] [38] rfl rfl (by decide) (by decide) hk1 hFc hP1 fz_nilD
    have hPo : va_P D vwCl [(o, .inl (k 5, 1, .inr (.inl g)))] H := hPo
    have hDo : va_D A [(o, .inl (k 5, 1, .inr (.inl g)))] := hDo
    exact (show False from hw).elim

set_option maxHeartbeats 4000000 in
set_option maxRecDepth 100000 in
theorem h_node (l : Launch) (hl0 : l.stackTraces = false) (A : Nat → Prop) (D : va_G) (k : Nat → ClassId) (q : Nat → Nat) (f : Nat → Nat → Int32) (pa : Nat → Option Nat) (v : Nat → Int32) (o : Nat) (g : (Nat → Int64)) (p0 p1 : Int32) (g_v_1 : v 1 = 1) (g_f_4_0 : f 4 0 = 0) (g_f_5_0 : f 5 0 = (-1)) (g_f_7_0 : f 7 0 = 0) (g_f_8_0 : f 8 0 = (-1)) (g_f_9_0 : f 9 0 = (-1)) (g_v_2 : v 2 = 1) (g_f_6_0 : f 6 0 = 0) (g_f_2_0 : f 2 0 = 0) (g_f_18_0 : f 18 0 = (-1)) (g_f_19_0 : f 19 0 = (-1)) (g_v_7 : v 7 = 0) :
    vx_Met l yL_node (Cond.codeWith yL_node cL_node 5 (some .int) [(0, 10, 13, 13), (0, 10, 17, 15)] :: fz_WA) { frames := 36, cells := 2, slots := 12, locals := 480 } (va_Pc [.ref (q 31), .int p0, .int p1, .ref o] (fz_PC A D (fz_tys k) (fz_WC k q f pa v ++ [(o, .inl (k 5, 1, .inr (.inl g)))]))) (fz_QI D A (fun (u : (Nat → Int64)) => [(o, .inl (k 5, 1, .inr (.inl u)))]) (fun (r : Int32) (u : (Nat → Int64)) => (r = 0 ∧ u 0 = (0 : Int32).toInt64 ∧ (p0 = 0 ∧ p1 = 0)) ∨ (r = 0 ∧ u 0 = ((-1) : Int32).toInt64 ∧ (p0 = 0 ∧ p1 = 1)) ∨ (r = 0 ∧ u 0 = (0 : Int32).toInt64 ∧ (p0 = 0 ∧ p1 = 2)) ∨ (r = 0 ∧ u 0 = ((-1) : Int32).toInt64 ∧ (p0 = 0 ∧ (3 ≤ p1 ∧ p1 ≤ 5))) ∨ (r = 0 ∧ u 0 = (0 : Int32).toInt64 ∧ (p0 = 0 ∧ (6 ≤ p1 ∧ p1 ≤ 8))) ∨ (r = 0 ∧ u 0 = ((-1) : Int32).toInt64 ∧ (p0 = 0 ∧ (9 ≤ p1 ∧ p1 ≤ 10))) ∨ (r = 0 ∧ u 0 = (0 : Int32).toInt64 ∧ (p0 = 0 ∧ p1 = 11)) ∨ (r = 1 ∧ ¬ (p0 = 0)) ∨ (r = 2 ∧ (p0 = 0 ∧ ¬ ((0 ≤ p1 ∧ p1 ≤ 11)))))) (fz_XC (fun _ => False) A) 2 12 A := by
  refine fz_ofH (by decide +kernel) (Nat.le_of_ble_eq_true rfl) ?_
  intro p e s m below meth c hx hb hr hml hown hlocks hts htab hA hP hK hD hG hS ls hl
  have hown : s.vm.findClass RL = some m.cls := hown
  have S0 : CallFix p m c cL_node 5 s [.ref (q 31), .int p0, .int p1, .ref o].toArray (Cond.codeWith yL_node cL_node 5 (some .int) [(0, 10, 13, 13), (0, 10, 17, 15)] :: fz_WA) RL := ⟨hx, hb, hml, hown, hts⟩
  have hl : lv_has ls 5 [(0, .ref (q 31)), (1, .int p0), (2, .int p1), (3, .ref o)] := hl
  refine lv_aload_n hx hb dL_node_0 rfl (lv_at hl 3 rfl) ?_
  refine lv_iconst (v := 0) hx hb dL_node_1 (by decide) ?_
  refine lv_aload_n hx hb dL_node_2 rfl (lv_at hl 0 rfl) ?_
  refine lv_iload_n hx hb dL_node_3 rfl (lv_at hl 1 rfl) ?_
  refine lv_iload_n hx hb dL_node_4 rfl (lv_at hl 2 rfl) ?_
  have hPc : va_P D vwCl (fz_WC k q f pa v) s.heap := fz_left hP
  have hDc : va_D (va_A (fz_WC k q f pa v) s.heap.size) (fz_WC k q f pa v) := (fz_leftD hD).self
  have hFc := va_free (wc := (fz_WC k q f pa v)) hD hS hA [0, 1, 2, 3, 4, 5, 6, 7, 8, 9, 10, 11, 12, 13, 14, 15, 16, 17, 18, 19, 20, 21, 22, 23, 24, 25, 26, 27, 28, 29, 30, 31, 32, 33, 34, 35, 36, 37] rfl
  refine fz_hVi (As := [.int p0, .int p1]) (rest := [.int 0, .ref o]) S0 (c_node l hl0 (va_A (fz_WC k q f pa v) s.heap.size) D k q f pa v p0 p1 g_v_1 g_f_4_0 g_f_5_0 g_f_7_0 g_f_8_0 g_f_9_0 g_v_2 g_f_6_0 g_f_2_0 g_f_18_0 g_f_19_0 g_v_7) (fz_cwV (C := RX9) 2 hts fm_668 fm_669 fm_670 fm_671 fm_6 rfl rfl ⟨by decide, by decide, by decide +kernel⟩ ⟨Nat.le_of_ble_eq_true rfl, Nat.le_of_ble_eq_true rfl⟩) (va_recv hK hP (ci := 13) (q0 := 31) rfl rfl) hFc (fun a9 h9 => Or.inr h9) hG hS hPc hK hDc rfl hl.1 rfl (Nat.le_of_ble_eq_true rfl) dL_node_5 ⟨Nat.le_of_ble_eq_true rfl, Nat.le_of_ble_eq_true rfl⟩ (fun E9 ce q9 H locs hE hz1 hk1 hS h1 h2 h3 => ?_) (fun r u H locs hw hz1 hk1 hP1 hS => ?_)
  · obtain ⟨hPo, hDo⟩ := va_join (wr := [(o, .inl (k 5, 1, .inr (.inl g)))]) (w1 := []) hP hD [0, 1, 2, 3, 4, 5, 6, 7, 8, 9, 10, 11, 12, 13, 14, 15, 16, 17, 18, 19, 20, 21, 22, 23, 24, 25, 26, 27, 28, 29, 30, 31, 32, 33, 34, 35, 36, 37] [38] rfl rfl (by decide) (by decide) hk1 hFc fz_nil fz_nilD
    have hPo : va_P D vwCl [(o, .inl (k 5, 1, .inr (.inl g)))] H := hPo
    rcases hE with ⟨rfl, hc9⟩ | ⟨rfl, hc9⟩
    · refine vx_catch (own := RL) (name := "java/lang/IndexOutOfBoundsException") hown [] ⟨0, 10, 13, 13⟩ [⟨0, 10, 17, 15⟩] (htab.trans rfl) (fun z hz => by cases hz) (by decide) (by decide) (hts _ (fz_m fm_654)) (fz_cast hG fm_653) h1 h2 h3 ?_
      refine lv_astore (lv' := [(4, .ref q9), (0, .ref (q 31)), (1, .int p0), (2, .int p1), (3, .ref o)]) hx hb dL_node_13 hl (by decide) rfl (fun ls hl => ?_)
      refine lv_iconst (v := 1) hx hb dL_node_15 (by decide) ?_
      exact vx_ret (fz_iret hx hb hr rfl hlocks hS dL_node_16 g (Or.inr (Or.inr (Or.inr (Or.inr (Or.inr (Or.inr (Or.inr (Or.inl ⟨rfl, hc9⟩)))))))) hPo (Nat.le_of_ble_eq_true rfl) (Nat.le_of_ble_eq_true rfl))
    · refine vx_catch (own := RL) (name := "java/lang/IllegalArgumentException") hown [⟨0, 10, 13, 13⟩] ⟨0, 10, 17, 15⟩ [] (htab.trans rfl) (List.forall_mem_cons.mpr ⟨Or.inr ⟨by decide, "java/lang/IndexOutOfBoundsException", hts _ (fz_m fm_654), hG.2.2.2.2.2.1 ("java/lang/IllegalArgumentException", "java/lang/IndexOutOfBoundsException") (by decide)⟩, (fun z hz => by cases hz)⟩) (by decide) (by decide) (hts _ (fz_m fm_656)) (fz_cast hG fm_655) h1 h2 h3 ?_
      refine lv_astore (lv' := [(4, .ref q9), (0, .ref (q 31)), (1, .int p0), (2, .int p1), (3, .ref o)]) hx hb dL_node_17 hl (by decide) rfl (fun ls hl => ?_)
      refine lv_iconst (v := 2) hx hb dL_node_19 (by decide) ?_
      exact vx_ret (fz_iret hx hb hr rfl hlocks hS dL_node_20 g (Or.inr (Or.inr (Or.inr (Or.inr (Or.inr (Or.inr (Or.inr (Or.inr ⟨rfl, hc9⟩)))))))) hPo (Nat.le_of_ble_eq_true rfl) (Nat.le_of_ble_eq_true rfl))
  · obtain ⟨hPo, hDo⟩ := va_join (wr := [(o, .inl (k 5, 1, .inr (.inl g)))]) (w1 := []) hP hD [0, 1, 2, 3, 4, 5, 6, 7, 8, 9, 10, 11, 12, 13, 14, 15, 16, 17, 18, 19, 20, 21, 22, 23, 24, 25, 26, 27, 28, 29, 30, 31, 32, 33, 34, 35, 36, 37] [38] rfl rfl (by decide) (by decide) hk1 hFc hP1 fz_nilD
    have hPo : va_P D vwCl [(o, .inl (k 5, 1, .inr (.inl g)))] H := hPo
    have hDo : va_D A [(o, .inl (k 5, 1, .inr (.inl g)))] := hDo
    rcases hw with ⟨rfl, hc9⟩ | ⟨rfl, hc9⟩ | ⟨rfl, hc9⟩ | ⟨rfl, hc9⟩ | ⟨rfl, hc9⟩ | ⟨rfl, hc9⟩ | ⟨rfl, hc9⟩
    · skip
      refine lv_i2l hx hb dL_node_8 rfl ?_
      refine va_last hx hb hK hPo hDo hS 0 5 rfl rfl (fz_vin (by decide)) dL_node_9 (fun H locs hPo hDo hS => ?_)
      refine lv_goto (tgt := 21) hx hb dL_node_10 (by decide) ?_
      refine lv_iconst (v := 0) hx hb dL_node_21 (by decide) ?_
      exact vx_ret (fz_iret hx hb hr rfl hlocks hS dL_node_22 (vp_updL g (0 : Int32).toNatClampNeg (0 : Int32).toInt64) (Or.inl ⟨rfl, rfl, hc9⟩) hPo (Nat.le_of_ble_eq_true rfl) (Nat.le_of_ble_eq_true rfl))
    · skip
      refine lv_i2l hx hb dL_node_8 rfl ?_
      refine va_last hx hb hK hPo hDo hS 0 5 rfl rfl (fz_vin (by decide)) dL_node_9 (fun H locs hPo hDo hS => ?_)
      refine lv_goto (tgt := 21) hx hb dL_node_10 (by decide) ?_
      refine lv_iconst (v := 0) hx hb dL_node_21 (by decide) ?_
      exact vx_ret (fz_iret hx hb hr rfl hlocks hS dL_node_22 (vp_updL g (0 : Int32).toNatClampNeg ((-1) : Int32).toInt64) (Or.inr (Or.inl ⟨rfl, rfl, hc9⟩)) hPo (Nat.le_of_ble_eq_true rfl) (Nat.le_of_ble_eq_true rfl))
    · skip
      refine lv_i2l hx hb dL_node_8 rfl ?_
      refine va_last hx hb hK hPo hDo hS 0 5 rfl rfl (fz_vin (by decide)) dL_node_9 (fun H locs hPo hDo hS => ?_)
      refine lv_goto (tgt := 21) hx hb dL_node_10 (by decide) ?_
      refine lv_iconst (v := 0) hx hb dL_node_21 (by decide) ?_
      exact vx_ret (fz_iret hx hb hr rfl hlocks hS dL_node_22 (vp_updL g (0 : Int32).toNatClampNeg (0 : Int32).toInt64) (Or.inr (Or.inr (Or.inl ⟨rfl, rfl, hc9⟩))) hPo (Nat.le_of_ble_eq_true rfl) (Nat.le_of_ble_eq_true rfl))
    · skip
      refine lv_i2l hx hb dL_node_8 rfl ?_
      refine va_last hx hb hK hPo hDo hS 0 5 rfl rfl (fz_vin (by decide)) dL_node_9 (fun H locs hPo hDo hS => ?_)
      refine lv_goto (tgt := 21) hx hb dL_node_10 (by decide) ?_
      refine lv_iconst (v := 0) hx hb dL_node_21 (by decide) ?_
      exact vx_ret (fz_iret hx hb hr rfl hlocks hS dL_node_22 (vp_updL g (0 : Int32).toNatClampNeg ((-1) : Int32).toInt64) (Or.inr (Or.inr (Or.inr (Or.inl ⟨rfl, rfl, hc9⟩)))) hPo (Nat.le_of_ble_eq_true rfl) (Nat.le_of_ble_eq_true rfl))
    · skip
      refine lv_i2l hx hb dL_node_8 rfl ?_
      refine va_last hx hb hK hPo hDo hS 0 5 rfl rfl (fz_vin (by decide)) dL_node_9 (fun H locs hPo hDo hS => ?_)
      refine lv_goto (tgt := 21) hx hb dL_node_10 (by decide) ?_
      refine lv_iconst (v := 0) hx hb dL_node_21 (by decide) ?_
      exact vx_ret (fz_iret hx hb hr rfl hlocks hS dL_node_22 (vp_updL g (0 : Int32).toNatClampNeg (0 : Int32).toInt64) (Or.inr (Or.inr (Or.inr (Or.inr (Or.inl ⟨rfl, rfl, hc9⟩))))) hPo (Nat.le_of_ble_eq_true rfl) (Nat.le_of_ble_eq_true rfl))
    · skip
      refine lv_i2l hx hb dL_node_8 rfl ?_
      refine va_last hx hb hK hPo hDo hS 0 5 rfl rfl (fz_vin (by decide)) dL_node_9 (fun H locs hPo hDo hS => ?_)
      refine lv_goto (tgt := 21) hx hb dL_node_10 (by decide) ?_
      refine lv_iconst (v := 0) hx hb dL_node_21 (by decide) ?_
      exact vx_ret (fz_iret hx hb hr rfl hlocks hS dL_node_22 (vp_updL g (0 : Int32).toNatClampNeg ((-1) : Int32).toInt64) (Or.inr (Or.inr (Or.inr (Or.inr (Or.inr (Or.inl ⟨rfl, rfl, hc9⟩)))))) hPo (Nat.le_of_ble_eq_true rfl) (Nat.le_of_ble_eq_true rfl))
    · skip
      refine lv_i2l hx hb dL_node_8 rfl ?_
      refine va_last hx hb hK hPo hDo hS 0 5 rfl rfl (fz_vin (by decide)) dL_node_9 (fun H locs hPo hDo hS => ?_)
      refine lv_goto (tgt := 21) hx hb dL_node_10 (by decide) ?_
      refine lv_iconst (v := 0) hx hb dL_node_21 (by decide) ?_
      exact vx_ret (fz_iret hx hb hr rfl hlocks hS dL_node_22 (vp_updL g (0 : Int32).toNatClampNeg (0 : Int32).toInt64) (Or.inr (Or.inr (Or.inr (Or.inr (Or.inr (Or.inr (Or.inl ⟨rfl, rfl, hc9⟩))))))) hPo (Nat.le_of_ble_eq_true rfl) (Nat.le_of_ble_eq_true rfl))

set_option maxHeartbeats 4000000 in
set_option maxRecDepth 100000 in
theorem h_child (l : Launch) (hl0 : l.stackTraces = false) (A : Nat → Prop) (D : va_G) (k : Nat → ClassId) (q : Nat → Nat) (f : Nat → Nat → Int32) (pa : Nat → Option Nat) (v : Nat → Int32) (o : Nat) (g : (Nat → Int64)) (p0 p1 : Int32) (g_v_1 : v 1 = 1) (g_f_4_0 : f 4 0 = 0) (g_v_2 : v 2 = 1) (g_f_2_0 : f 2 0 = 0) (g_f_5_0 : f 5 0 = (-1)) :
    vx_Met l yL_child (Cond.codeWith yL_child cL_child 5 (some .int) [(0, 10, 13, 13)] :: fz_WA) { frames := 36, cells := 2, slots := 12, locals := 480 } (va_Pc [.ref (q 31), .int p0, .int p1, .ref o] (fz_PC A D (fz_tys k) (fz_WC k q f pa v ++ [(o, .inl (k 5, 1, .inr (.inl g)))]))) (fz_QI D A (fun (u : (Nat → Int64)) => [(o, .inl (k 5, 1, .inr (.inl u)))]) (fun (r : Int32) (u : (Nat → Int64)) => (r = 1 ∧ True))) (fz_XC (fun _ => False) A) 2 12 A := by
  refine fz_ofH (by decide +kernel) (Nat.le_of_ble_eq_true rfl) ?_
  intro p e s m below meth c hx hb hr hml hown hlocks hts htab hA hP hK hD hG hS ls hl
  have hown : s.vm.findClass RL = some m.cls := hown
  have S0 : CallFix p m c cL_child 5 s [.ref (q 31), .int p0, .int p1, .ref o].toArray (Cond.codeWith yL_child cL_child 5 (some .int) [(0, 10, 13, 13)] :: fz_WA) RL := ⟨hx, hb, hml, hown, hts⟩
  have hl : lv_has ls 5 [(0, .ref (q 31)), (1, .int p0), (2, .int p1), (3, .ref o)] := hl
  refine lv_aload_n hx hb dL_child_0 rfl (lv_at hl 3 rfl) ?_
  refine lv_iconst (v := 0) hx hb dL_child_1 (by decide) ?_
  refine lv_aload_n hx hb dL_child_2 rfl (lv_at hl 0 rfl) ?_
  refine lv_iload_n hx hb dL_child_3 rfl (lv_at hl 1 rfl) ?_
  refine lv_iload_n hx hb dL_child_4 rfl (lv_at hl 2 rfl) ?_
  have hPc : va_P D vwCl (fz_WC k q f pa v) s.heap := fz_left hP
  have hDc : va_D (va_A (fz_WC k q f pa v) s.heap.size) (fz_WC k q f pa v) := (fz_leftD hD).self
  have hFc := va_free (wc := (fz_WC k q f pa v)) hD hS hA [0, 1, 2, 3, 4, 5, 6, 7, 8, 9, 10, 11, 12, 13, 14, 15, 16, 17, 18, 19, 20, 21, 22, 23, 24, 25, 26, 27, 28, 29, 30, 31, 32, 33, 34, 35, 36, 37] rfl
  refine fz_hVi (As := [.int p0, .int p1]) (rest := [.int 0, .ref o]) S0 (c_child l hl0 (va_A (fz_WC k q f pa v) s.heap.size) D k q f pa v p0 p1 g_v_1 g_f_4_0 g_v_2 g_f_2_0 g_f_5_0) (fz_cwV (C := RX9) 2 hts fm_673 fm_674 fm_675 fm_676 fm_6 rfl rfl ⟨by decide, by decide, by decide +kernel⟩ ⟨Nat.le_of_ble_eq_true rfl, Nat.le_of_ble_eq_true rfl⟩) (va_recv hK hP (ci := 13) (q0 := 31) rfl rfl) hFc (fun a9 h9 => Or.inr h9) hG hS hPc hK hDc rfl hl.1 rfl (Nat.le_of_ble_eq_true rfl) dL_child_5 ⟨Nat.le_of_ble_eq_true rfl, Nat.le_of_ble_eq_true rfl⟩ (fun E9 ce q9 H locs hE hz1 hk1 hS h1 h2 h3 => ?_) (fun r u H locs hw hz1 hk1 hP1 hS => ?_)
  · obtain ⟨hPo, hDo⟩ := va_join (wr := [(o, .inl (k 5, 1, .inr (.inl g)))]) (w1 := []) hP hD [0, 1, 2, 3, 4, 5, 6, 7, 8, 9, 10, 11, 12, 13, 14, 15, 16, 17, 18, 19, 20, 21, 22, 23, 24, 25, 26, 27, 28, 29, 30, 31, 32, 33, 34, 35, 36, 37] [38] rfl rfl (by decide) (by decide) hk1 hFc fz_nil fz_nilD
    have hPo : va_P D vwCl [(o, .inl (k 5, 1, .inr (.inl g)))] H := hPo
    rcases hE with ⟨rfl, hc9⟩
    · refine vx_catch (own := RL) (name := "java/lang/IndexOutOfBoundsException") hown [] ⟨0, 10, 13, 13⟩ [] (htab.trans rfl) (fun z hz => by cases hz) (by decide) (by decide) (hts _ (fz_m fm_654)) (fz_cast hG fm_653) h1 h2 h3 ?_
      refine lv_astore (lv' := [(4, .ref q9), (0, .ref (q 31)), (1, .int p0), (2, .int p1), (3, .ref o)]) hx hb dL_child_13 hl (by decide) rfl (fun ls hl => ?_)
      refine lv_iconst (v := 1) hx hb dL_child_15 (by decide) ?_
      exact vx_ret (fz_iret hx hb hr rfl hlocks hS dL_child_16 g ⟨rfl, trivial⟩ hPo (Nat.le_of_ble_eq_true rfl) (Nat.le_of_ble_eq_true rfl))
  · obtain ⟨hPo, hDo⟩ := va_join (wr := [(o, .inl (k 5, 1, .inr (.inl g)))]) (w1 := []) hP hD [0, 1, 2, 3, 4, 5, 6, 7, 8, 9, 10, 11, 12, 13, 14, 15, 16, 17, 18, 19, 20, 21, 22, 23, 24, 25, 26, 27, 28, 29, 30, 31, 32, 33, 34, 35, 36, 37] [38] rfl rfl (by decide) (by decide) hk1 hFc hP1 fz_nilD
    have hPo : va_P D vwCl [(o, .inl (k 5, 1, .inr (.inl g)))] H := hPo
    have hDo : va_D A [(o, .inl (k 5, 1, .inr (.inl g)))] := hDo
    exact (show False from hw).elim

set_option maxHeartbeats 4000000 in
set_option maxRecDepth 100000 in
theorem h_setRule (l : Launch) (hl0 : l.stackTraces = false) (A : Nat → Prop) (D : va_G) (k : Nat → ClassId) (q : Nat → Nat) (f : Nat → Nat → Int32) (pa : Nat → Option Nat) (v : Nat → Int32) (o : Nat) (g : (Nat → Int64)) (p0 p1 p2 : Int32) (g_v_1 : v 1 = 1) (g_f_4_0 : f 4 0 = 0) (g_v_9 : v 9 = 0) (g_v_2 : v 2 = 1) (g_v_3 : v 3 = 0) (g_v_4 : v 4 = 0) (g_v_5 : v 5 = 0) (g_v_6 : v 6 = 0) (g_v_7 : v 7 = 0) (g_v_8 : v 8 = 0) (g_v_0 : v 0 = 3) (g_v_10 : v 10 = 0) (g_pa_1 : pa 1 = none) (g_f_11_0 : f 11 0 = (-1)) :
    vx_Met l yL_setRule (Cond.codeWith yL_setRule cL_setRule 6 (some .int) [(0, 12, 15, 13), (0, 12, 19, 15)] :: fz_WA) { frames := 72, cells := 32, slots := 1705, locals := 960 } (va_Pc [.ref (q 31), .int p0, .int p1, .int p2, .ref o] (fz_PC A D (fz_tys k) (fz_WC k q f pa v ++ [(o, .inl (k 5, 1, .inr (.inl g)))]))) (fz_QI D A (fun (u : (Nat → Int64)) => [(o, .inl (k 5, 1, .inr (.inl u)))]) (fun (r : Int32) (u : (Nat → Int64)) => (r = 0 ∧ u 0 = ((-1) : Int32).toInt64 ∧ (p0 = 0 ∧ (p1 = (-1) ∨ p1 = 2 ∨ ((0 ≤ p1 ∧ p1 ≤ 1) ∧ (1 ≤ p2 ∧ p2 ≤ 5000))))) ∨ (r = 1 ∧ ¬ (p0 = 0)) ∨ (r = 2 ∧ (p0 = 0 ∧ ¬ ((p1 = (-1) ∨ p1 = 2 ∨ ((0 ≤ p1 ∧ p1 ≤ 1) ∧ (1 ≤ p2 ∧ p2 ≤ 5000)))))))) (fz_XC (fun _ => False) A) 32 1705 A := by
  refine fz_ofH (by decide +kernel) (Nat.le_of_ble_eq_true rfl) ?_
  intro p e s m below meth c hx hb hr hml hown hlocks hts htab hA hP hK hD hG hS ls hl
  have hown : s.vm.findClass RL = some m.cls := hown
  have S0 : CallFix p m c cL_setRule 6 s [.ref (q 31), .int p0, .int p1, .int p2, .ref o].toArray (Cond.codeWith yL_setRule cL_setRule 6 (some .int) [(0, 12, 15, 13), (0, 12, 19, 15)] :: fz_WA) RL := ⟨hx, hb, hml, hown, hts⟩
  have hl : lv_has ls 6 [(0, .ref (q 31)), (1, .int p0), (2, .int p1), (3, .int p2), (4, .ref o)] := hl
  refine lv_aload hx hb dL_setRule_0 (lv_at hl 4 rfl) ?_
  refine lv_iconst (v := 0) hx hb dL_setRule_2 (by decide) ?_
  refine lv_aload_n hx hb dL_setRule_3 rfl (lv_at hl 0 rfl) ?_
  refine lv_iload_n hx hb dL_setRule_4 rfl (lv_at hl 1 rfl) ?_
  refine lv_iload_n hx hb dL_setRule_5 rfl (lv_at hl 2 rfl) ?_
  refine lv_iload_n hx hb dL_setRule_6 rfl (lv_at hl 3 rfl) ?_
  have hPc : va_P D vwCl (fz_WC k q f pa v) s.heap := fz_left hP
  have hDc : va_D (va_A (fz_WC k q f pa v) s.heap.size) (fz_WC k q f pa v) := (fz_leftD hD).self
  have hFc := va_free (wc := (fz_WC k q f pa v)) hD hS hA [0, 1, 2, 3, 4, 5, 6, 7, 8, 9, 10, 11, 12, 13, 14, 15, 16, 17, 18, 19, 20, 21, 22, 23, 24, 25, 26, 27, 28, 29, 30, 31, 32, 33, 34, 35, 36, 37] rfl
  refine fz_hVi (As := [.int p0, .int p1, .int p2]) (rest := [.int 0, .ref o]) S0 (c_setRule l hl0 (va_A (fz_WC k q f pa v) s.heap.size) D k q f pa v p0 p1 p2 g_v_1 g_f_4_0 g_v_9 g_v_2 g_v_3 g_v_4 g_v_5 g_v_6 g_v_7 g_v_8 g_v_0 g_v_10 g_pa_1 g_f_11_0) (fz_cwV (C := RX9) 3 hts fm_678 fm_679 fm_680 fm_681 fm_6 rfl rfl ⟨by decide, by decide, by decide +kernel⟩ ⟨Nat.le_of_ble_eq_true rfl, Nat.le_of_ble_eq_true rfl⟩) (va_recv hK hP (ci := 13) (q0 := 31) rfl rfl) hFc (fun a9 h9 => Or.inr h9) hG hS hPc hK hDc rfl hl.1 rfl (Nat.le_of_ble_eq_true rfl) dL_setRule_7 ⟨Nat.le_of_ble_eq_true rfl, Nat.le_of_ble_eq_true rfl⟩ (fun E9 ce q9 H locs hE hz1 hk1 hS h1 h2 h3 => ?_) (fun r u H locs hw hz1 hk1 hP1 hS => ?_)
  · obtain ⟨hPo, hDo⟩ := va_join (wr := [(o, .inl (k 5, 1, .inr (.inl g)))]) (w1 := []) hP hD [0, 1, 2, 3, 4, 5, 6, 7, 8, 9, 10, 11, 12, 13, 14, 15, 16, 17, 18, 19, 20, 21, 22, 23, 24, 25, 26, 27, 28, 29, 30, 31, 32, 33, 34, 35, 36, 37] [38] rfl rfl (by decide) (by decide) hk1 hFc fz_nil fz_nilD
    have hPo : va_P D vwCl [(o, .inl (k 5, 1, .inr (.inl g)))] H := hPo
    rcases hE with ⟨rfl, hc9⟩ | ⟨rfl, hc9⟩
    · refine vx_catch (own := RL) (name := "java/lang/IndexOutOfBoundsException") hown [] ⟨0, 12, 15, 13⟩ [⟨0, 12, 19, 15⟩] (htab.trans rfl) (fun z hz => by cases hz) (by decide) (by decide) (hts _ (fz_m fm_654)) (fz_cast hG fm_653) h1 h2 h3 ?_
      refine lv_astore (lv' := [(5, .ref q9), (0, .ref (q 31)), (1, .int p0), (2, .int p1), (3, .int p2), (4, .ref o)]) hx hb dL_setRule_15 hl (by decide) rfl (fun ls hl => ?_)
      refine lv_iconst (v := 1) hx hb dL_setRule_17 (by decide) ?_
      exact vx_ret (fz_iret hx hb hr rfl hlocks hS dL_setRule_18 g (Or.inr (Or.inl ⟨rfl, hc9⟩)) hPo (Nat.le_of_ble_eq_true rfl) (Nat.le_of_ble_eq_true rfl))
    · refine vx_catch (own := RL) (name := "java/lang/IllegalArgumentException") hown [⟨0, 12, 15, 13⟩] ⟨0, 12, 19, 15⟩ [] (htab.trans rfl) (List.forall_mem_cons.mpr ⟨Or.inr ⟨by decide, "java/lang/IndexOutOfBoundsException", hts _ (fz_m fm_654), hG.2.2.2.2.2.1 ("java/lang/IllegalArgumentException", "java/lang/IndexOutOfBoundsException") (by decide)⟩, (fun z hz => by cases hz)⟩) (by decide) (by decide) (hts _ (fz_m fm_656)) (fz_cast hG fm_655) h1 h2 h3 ?_
      refine lv_astore (lv' := [(5, .ref q9), (0, .ref (q 31)), (1, .int p0), (2, .int p1), (3, .int p2), (4, .ref o)]) hx hb dL_setRule_19 hl (by decide) rfl (fun ls hl => ?_)
      refine lv_iconst (v := 2) hx hb dL_setRule_21 (by decide) ?_
      exact vx_ret (fz_iret hx hb hr rfl hlocks hS dL_setRule_22 g (Or.inr (Or.inr ⟨rfl, hc9⟩)) hPo (Nat.le_of_ble_eq_true rfl) (Nat.le_of_ble_eq_true rfl))
  · obtain ⟨hPo, hDo⟩ := va_join (wr := [(o, .inl (k 5, 1, .inr (.inl g)))]) (w1 := []) hP hD [0, 1, 2, 3, 4, 5, 6, 7, 8, 9, 10, 11, 12, 13, 14, 15, 16, 17, 18, 19, 20, 21, 22, 23, 24, 25, 26, 27, 28, 29, 30, 31, 32, 33, 34, 35, 36, 37] [38] rfl rfl (by decide) (by decide) hk1 hFc hP1 fz_nilD
    have hPo : va_P D vwCl [(o, .inl (k 5, 1, .inr (.inl g)))] H := hPo
    have hDo : va_D A [(o, .inl (k 5, 1, .inr (.inl g)))] := hDo
    obtain ⟨rfl, hc9⟩ := hw
    refine lv_i2l hx hb dL_setRule_10 rfl ?_
    refine va_last hx hb hK hPo hDo hS 0 5 rfl rfl (fz_vin (by decide)) dL_setRule_11 (fun H locs hPo hDo hS => ?_)
    refine lv_goto (tgt := 23) hx hb dL_setRule_12 (by decide) ?_
    refine lv_iconst (v := 0) hx hb dL_setRule_23 (by decide) ?_
    exact vx_ret (fz_iret hx hb hr rfl hlocks hS dL_setRule_24 (vp_updL g (0 : Int32).toNatClampNeg ((-1) : Int32).toInt64) (Or.inl ⟨rfl, rfl, hc9⟩) hPo (Nat.le_of_ble_eq_true rfl) (Nat.le_of_ble_eq_true rfl))

set_option maxHeartbeats 4000000 in
set_option maxRecDepth 100000 in
theorem h_setPage (l : Launch) (hl0 : l.stackTraces = false) (A : Nat → Prop) (D : va_G) (k : Nat → ClassId) (q : Nat → Nat) (f : Nat → Nat → Int32) (pa : Nat → Option Nat) (v : Nat → Int32) (o : Nat) (g : (Nat → Int64)) (p0 p1 p2 : Int32) (g_v_1 : v 1 = 1) (g_f_4_0 : f 4 0 = 0) (g_f_7_0 : f 7 0 = 0) :
    vx_Met l yL_setPage (Cond.codeWith yL_setPage cL_setPage 6 (some .int) [(0, 12, 15, 13), (0, 12, 19, 15)] :: fz_WA) { frames := 36, cells := 2, slots := 12, locals := 480 } (va_Pc [.ref (q 31), .int p0, .int p1, .int p2, .ref o] (fz_PC A D (fz_tys k) (fz_WC k q f pa v ++ [(o, .inl (k 5, 1, .inr (.inl g)))]))) (fz_QI D A (fun (u : (Nat → Int64)) => [(o, .inl (k 5, 1, .inr (.inl u)))]) (fun (r : Int32) (u : (Nat → Int64)) => (r = 1 ∧ True))) (fz_XC (fun _ => False) A) 2 12 A := by
  refine fz_ofH (by decide +kernel) (Nat.le_of_ble_eq_true rfl) ?_
  intro p e s m below meth c hx hb hr hml hown hlocks hts htab hA hP hK hD hG hS ls hl
  have hown : s.vm.findClass RL = some m.cls := hown
  have S0 : CallFix p m c cL_setPage 6 s [.ref (q 31), .int p0, .int p1, .int p2, .ref o].toArray (Cond.codeWith yL_setPage cL_setPage 6 (some .int) [(0, 12, 15, 13), (0, 12, 19, 15)] :: fz_WA) RL := ⟨hx, hb, hml, hown, hts⟩
  have hl : lv_has ls 6 [(0, .ref (q 31)), (1, .int p0), (2, .int p1), (3, .int p2), (4, .ref o)] := hl
  refine lv_aload hx hb dL_setPage_0 (lv_at hl 4 rfl) ?_
  refine lv_iconst (v := 0) hx hb dL_setPage_2 (by decide) ?_
  refine lv_aload_n hx hb dL_setPage_3 rfl (lv_at hl 0 rfl) ?_
  refine lv_iload_n hx hb dL_setPage_4 rfl (lv_at hl 1 rfl) ?_
  refine lv_iload_n hx hb dL_setPage_5 rfl (lv_at hl 2 rfl) ?_
  refine lv_iload_n hx hb dL_setPage_6 rfl (lv_at hl 3 rfl) ?_
  have hPc : va_P D vwCl (fz_WC k q f pa v) s.heap := fz_left hP
  have hDc : va_D (va_A (fz_WC k q f pa v) s.heap.size) (fz_WC k q f pa v) := (fz_leftD hD).self
  have hFc := va_free (wc := (fz_WC k q f pa v)) hD hS hA [0, 1, 2, 3, 4, 5, 6, 7, 8, 9, 10, 11, 12, 13, 14, 15, 16, 17, 18, 19, 20, 21, 22, 23, 24, 25, 26, 27, 28, 29, 30, 31, 32, 33, 34, 35, 36, 37] rfl
  refine fz_hVi (As := [.int p0, .int p1, .int p2]) (rest := [.int 0, .ref o]) S0 (c_setPage l hl0 (va_A (fz_WC k q f pa v) s.heap.size) D k q f pa v p0 p1 p2 g_v_1 g_f_4_0 g_f_7_0) (fz_cwV (C := RX9) 3 hts fm_683 fm_684 fm_685 fm_686 fm_6 rfl rfl ⟨by decide, by decide, by decide +kernel⟩ ⟨Nat.le_of_ble_eq_true rfl, Nat.le_of_ble_eq_true rfl⟩) (va_recv hK hP (ci := 13) (q0 := 31) rfl rfl) hFc (fun a9 h9 => Or.inr h9) hG hS hPc hK hDc rfl hl.1 rfl (Nat.le_of_ble_eq_true rfl) dL_setPage_7 ⟨Nat.le_of_ble_eq_true rfl, Nat.le_of_ble_eq_true rfl⟩ (fun E9 ce q9 H locs hE hz1 hk1 hS h1 h2 h3 => ?_) (fun r u H locs hw hz1 hk1 hP1 hS => ?_)
  · obtain ⟨hPo, hDo⟩ := va_join (wr := [(o, .inl (k 5, 1, .inr (.inl g)))]) (w1 := []) hP hD [0, 1, 2, 3, 4, 5, 6, 7, 8, 9, 10, 11, 12, 13, 14, 15, 16, 17, 18, 19, 20, 21, 22, 23, 24, 25, 26, 27, 28, 29, 30, 31, 32, 33, 34, 35, 36, 37] [38] rfl rfl (by decide) (by decide) hk1 hFc fz_nil fz_nilD
    have hPo : va_P D vwCl [(o, .inl (k 5, 1, .inr (.inl g)))] H := hPo
    rcases hE with ⟨rfl, hc9⟩
    · refine vx_catch (own := RL) (name := "java/lang/IndexOutOfBoundsException") hown [] ⟨0, 12, 15, 13⟩ [⟨0, 12, 19, 15⟩] (htab.trans rfl) (fun z hz => by cases hz) (by decide) (by decide) (hts _ (fz_m fm_654)) (fz_cast hG fm_653) h1 h2 h3 ?_
      refine lv_astore (lv' := [(5, .ref q9), (0, .ref (q 31)), (1, .int p0), (2, .int p1), (3, .int p2), (4, .ref o)]) hx hb dL_setPage_15 hl (by decide) rfl (fun ls hl => ?_)
      refine lv_iconst (v := 1) hx hb dL_setPage_17 (by decide) ?_
      exact vx_ret (fz_iret hx hb hr rfl hlocks hS dL_setPage_18 g ⟨rfl, trivial⟩ hPo (Nat.le_of_ble_eq_true rfl) (Nat.le_of_ble_eq_true rfl))
  · obtain ⟨hPo, hDo⟩ := va_join (wr := [(o, .inl (k 5, 1, .inr (.inl g)))]) (w1 := []) hP hD [0, 1, 2, 3, 4, 5, 6, 7, 8, 9, 10, 11, 12, 13, 14, 15, 16, 17, 18, 19, 20, 21, 22, 23, 24, 25, 26, 27, 28, 29, 30, 31, 32, 33, 34, 35, 36, 37] [38] rfl rfl (by decide) (by decide) hk1 hFc hP1 fz_nilD
    have hPo : va_P D vwCl [(o, .inl (k 5, 1, .inr (.inl g)))] H := hPo
    have hDo : va_D A [(o, .inl (k 5, 1, .inr (.inl g)))] := hDo
    exact (show False from hw).elim

set_option maxHeartbeats 4000000 in
set_option maxRecDepth 100000 in
theorem h_restriction (l : Launch) (hl0 : l.stackTraces = false) (A : Nat → Prop) (D : va_G) (k : Nat → ClassId) (q : Nat → Nat) (f : Nat → Nat → Int32) (pa : Nat → Option Nat) (v : Nat → Int32) (o : Nat) (g : (Nat → Int64)) (p0 p1 : Int32) (g_v_1 : v 1 = 1) (g_f_4_0 : f 4 0 = 0) (g_f_11_0 : f 11 0 = (-1)) (g_f_5_0 : f 5 0 = (-1)) (g_v_2 : v 2 = 1) (g_f_6_0 : f 6 0 = 0) (g_f_2_0 : f 2 0 = 0) (g_f_9_0 : f 9 0 = (-1)) :
    vx_Met l yL_restriction (Cond.codeWith yL_restriction cL_restriction 5 (some .int) [(0, 10, 13, 13), (0, 10, 17, 15)] :: fz_WA) { frames := 48, cells := 2, slots := 12, locals := 640 } (va_Pc [.ref (q 31), .int p0, .int p1, .ref o] (fz_PC A D (fz_tys k) (fz_WC k q f pa v ++ [(o, .inl (k 5, 1, .inr (.inl g)))]))) (fz_QI D A (fun (u : (Nat → Int64)) => [(o, .inl (k 5, 1, .inr (.inl u)))]) (fun (r : Int32) (u : (Nat → Int64)) => (r = 0 ∧ u 0 = (0 : Int32).toInt64 ∧ (p0 = 0 ∧ p1 = 0)) ∨ (r = 0 ∧ u 0 = ((-1) : Int32).toInt64 ∧ (p0 = 0 ∧ (1 ≤ p1 ∧ p1 ≤ 2))) ∨ (r = 1 ∧ ¬ (p0 = 0)) ∨ (r = 2 ∧ (p0 = 0 ∧ ¬ ((0 ≤ p1 ∧ p1 ≤ 2)))))) (fz_XC (fun _ => False) A) 2 12 A := by
  refine fz_ofH (by decide +kernel) (Nat.le_of_ble_eq_true rfl) ?_
  intro p e s m below meth c hx hb hr hml hown hlocks hts htab hA hP hK hD hG hS ls hl
  have hown : s.vm.findClass RL = some m.cls := hown
  have S0 : CallFix p m c cL_restriction 5 s [.ref (q 31), .int p0, .int p1, .ref o].toArray (Cond.codeWith yL_restriction cL_restriction 5 (some .int) [(0, 10, 13, 13), (0, 10, 17, 15)] :: fz_WA) RL := ⟨hx, hb, hml, hown, hts⟩
  have hl : lv_has ls 5 [(0, .ref (q 31)), (1, .int p0), (2, .int p1), (3, .ref o)] := hl
  refine lv_aload_n hx hb dL_restriction_0 rfl (lv_at hl 3 rfl) ?_
  refine lv_iconst (v := 0) hx hb dL_restriction_1 (by decide) ?_
  refine lv_aload_n hx hb dL_restriction_2 rfl (lv_at hl 0 rfl) ?_
  refine lv_iload_n hx hb dL_restriction_3 rfl (lv_at hl 1 rfl) ?_
  refine lv_iload_n hx hb dL_restriction_4 rfl (lv_at hl 2 rfl) ?_
  have hPc : va_P D vwCl (fz_WC k q f pa v) s.heap := fz_left hP
  have hDc : va_D (va_A (fz_WC k q f pa v) s.heap.size) (fz_WC k q f pa v) := (fz_leftD hD).self
  have hFc := va_free (wc := (fz_WC k q f pa v)) hD hS hA [0, 1, 2, 3, 4, 5, 6, 7, 8, 9, 10, 11, 12, 13, 14, 15, 16, 17, 18, 19, 20, 21, 22, 23, 24, 25, 26, 27, 28, 29, 30, 31, 32, 33, 34, 35, 36, 37] rfl
  refine fz_hVi (As := [.int p0, .int p1]) (rest := [.int 0, .ref o]) S0 (c_restriction l hl0 (va_A (fz_WC k q f pa v) s.heap.size) D k q f pa v p0 p1 g_v_1 g_f_4_0 g_f_11_0 g_f_5_0 g_v_2 g_f_6_0 g_f_2_0 g_f_9_0) (fz_cwV (C := RX9) 2 hts fm_688 fm_689 fm_690 fm_691 fm_6 rfl rfl ⟨by decide, by decide, by decide +kernel⟩ ⟨Nat.le_of_ble_eq_true rfl, Nat.le_of_ble_eq_true rfl⟩) (va_recv hK hP (ci := 13) (q0 := 31) rfl rfl) hFc (fun a9 h9 => Or.inr h9) hG hS hPc hK hDc rfl hl.1 rfl (Nat.le_of_ble_eq_true rfl) dL_restriction_5 ⟨Nat.le_of_ble_eq_true rfl, Nat.le_of_ble_eq_true rfl⟩ (fun E9 ce q9 H locs hE hz1 hk1 hS h1 h2 h3 => ?_) (fun r u H locs hw hz1 hk1 hP1 hS => ?_)
  · obtain ⟨hPo, hDo⟩ := va_join (wr := [(o, .inl (k 5, 1, .inr (.inl g)))]) (w1 := []) hP hD [0, 1, 2, 3, 4, 5, 6, 7, 8, 9, 10, 11, 12, 13, 14, 15, 16, 17, 18, 19, 20, 21, 22, 23, 24, 25, 26, 27, 28, 29, 30, 31, 32, 33, 34, 35, 36, 37] [38] rfl rfl (by decide) (by decide) hk1 hFc fz_nil fz_nilD
    have hPo : va_P D vwCl [(o, .inl (k 5, 1, .inr (.inl g)))] H := hPo
    rcases hE with ⟨rfl, hc9⟩ | ⟨rfl, hc9⟩
    · refine vx_catch (own := RL) (name := "java/lang/IndexOutOfBoundsException") hown [] ⟨0, 10, 13, 13⟩ [⟨0, 10, 17, 15⟩] (htab.trans rfl) (fun z hz => by cases hz) (by decide) (by decide) (hts _ (fz_m fm_654)) (fz_cast hG fm_653) h1 h2 h3 ?_
      refine lv_astore (lv' := [(4, .ref q9), (0, .ref (q 31)), (1, .int p0), (2, .int p1), (3, .ref o)]) hx hb dL_restriction_13 hl (by decide) rfl (fun ls hl => ?_)
      refine lv_iconst (v := 1) hx hb dL_restriction_15 (by decide) ?_
      exact vx_ret (fz_iret hx hb hr rfl hlocks hS dL_restriction_16 g (Or.inr (Or.inr (Or.inl ⟨rfl, hc9⟩))) hPo (Nat.le_of_ble_eq_true rfl) (Nat.le_of_ble_eq_true rfl))
    · refine vx_catch (own := RL) (name := "java/lang/IllegalArgumentException") hown [⟨0, 10, 13, 13⟩] ⟨0, 10, 17, 15⟩ [] (htab.trans rfl) (List.forall_mem_cons.mpr ⟨Or.inr ⟨by decide, "java/lang/IndexOutOfBoundsException", hts _ (fz_m fm_654), hG.2.2.2.2.2.1 ("java/lang/IllegalArgumentException", "java/lang/IndexOutOfBoundsException") (by decide)⟩, (fun z hz => by cases hz)⟩) (by decide) (by decide) (hts _ (fz_m fm_656)) (fz_cast hG fm_655) h1 h2 h3 ?_
      refine lv_astore (lv' := [(4, .ref q9), (0, .ref (q 31)), (1, .int p0), (2, .int p1), (3, .ref o)]) hx hb dL_restriction_17 hl (by decide) rfl (fun ls hl => ?_)
      refine lv_iconst (v := 2) hx hb dL_restriction_19 (by decide) ?_
      exact vx_ret (fz_iret hx hb hr rfl hlocks hS dL_restriction_20 g (Or.inr (Or.inr (Or.inr ⟨rfl, hc9⟩))) hPo (Nat.le_of_ble_eq_true rfl) (Nat.le_of_ble_eq_true rfl))
  · obtain ⟨hPo, hDo⟩ := va_join (wr := [(o, .inl (k 5, 1, .inr (.inl g)))]) (w1 := []) hP hD [0, 1, 2, 3, 4, 5, 6, 7, 8, 9, 10, 11, 12, 13, 14, 15, 16, 17, 18, 19, 20, 21, 22, 23, 24, 25, 26, 27, 28, 29, 30, 31, 32, 33, 34, 35, 36, 37] [38] rfl rfl (by decide) (by decide) hk1 hFc hP1 fz_nilD
    have hPo : va_P D vwCl [(o, .inl (k 5, 1, .inr (.inl g)))] H := hPo
    have hDo : va_D A [(o, .inl (k 5, 1, .inr (.inl g)))] := hDo
    rcases hw with ⟨rfl, hc9⟩ | ⟨rfl, hc9⟩
    · skip
      refine lv_i2l hx hb dL_restriction_8 rfl ?_
      refine va_last hx hb hK hPo hDo hS 0 5 rfl rfl (fz_vin (by decide)) dL_restriction_9 (fun H locs hPo hDo hS => ?_)
      refine lv_goto (tgt := 21) hx hb dL_restriction_10 (by decide) ?_
      refine lv_iconst (v := 0) hx hb dL_restriction_21 (by decide) ?_
      exact vx_ret (fz_iret hx hb hr rfl hlocks hS dL_restriction_22 (vp_updL g (0 : Int32).toNatClampNeg (0 : Int32).toInt64) (Or.inl ⟨rfl, rfl, hc9⟩) hPo (Nat.le_of_ble_eq_true rfl) (Nat.le_of_ble_eq_true rfl))
    · skip
      refine lv_i2l hx hb dL_restriction_8 rfl ?_
      refine va_last hx hb hK hPo hDo hS 0 5 rfl rfl (fz_vin (by decide)) dL_restriction_9 (fun H locs hPo hDo hS => ?_)
      refine lv_goto (tgt := 21) hx hb dL_restriction_10 (by decide) ?_
      refine lv_iconst (v := 0) hx hb dL_restriction_21 (by decide) ?_
      exact vx_ret (fz_iret hx hb hr rfl hlocks hS dL_restriction_22 (vp_updL g (0 : Int32).toNatClampNeg ((-1) : Int32).toInt64) (Or.inr (Or.inl ⟨rfl, rfl, hc9⟩)) hPo (Nat.le_of_ble_eq_true rfl) (Nat.le_of_ble_eq_true rfl))

set_option maxHeartbeats 4000000 in
set_option maxRecDepth 100000 in
theorem h_openPages (l : Launch) (hl0 : l.stackTraces = false) (A : Nat → Prop) (D : va_G) (k : Nat → ClassId) (q : Nat → Nat) (f : Nat → Nat → Int32) (pa : Nat → Option Nat) (v : Nat → Int32) (o : Nat) (g : (Nat → Int64)) (p0 p1 : Int32) (g_v_1 : v 1 = 1) (g_f_4_0 : f 4 0 = 0) (g_f_7_0 : f 7 0 = 0) :
    vx_Met l yL_openPages (Cond.codeWith yL_openPages cL_openPages 5 (some .int) [(0, 10, 13, 13), (0, 10, 17, 15)] :: fz_WA) { frames := 36, cells := 2, slots := 12, locals := 480 } (va_Pc [.ref (q 31), .int p0, .int p1, .ref o] (fz_PC A D (fz_tys k) (fz_WC k q f pa v ++ [(o, .inl (k 5, 1, .inr (.inl g)))]))) (fz_QI D A (fun (u : (Nat → Int64)) => [(o, .inl (k 5, 1, .inr (.inl u)))]) (fun (r : Int32) (u : (Nat → Int64)) => (r = 0 ∧ u 0 = (0 : Int32).toInt64 ∧ (p0 = 0 ∧ (0 ≤ p1 ∧ p1 ≤ 9999))) ∨ (r = 1 ∧ ¬ (p0 = 0)) ∨ (r = 2 ∧ (p0 = 0 ∧ ¬ ((0 ≤ p1 ∧ p1 ≤ 9999)))))) (fz_XC (fun _ => False) A) 2 12 A := by
  refine fz_ofH (by decide +kernel) (Nat.le_of_ble_eq_true rfl) ?_
  intro p e s m below meth c hx hb hr hml hown hlocks hts htab hA hP hK hD hG hS ls hl
  have hown : s.vm.findClass RL = some m.cls := hown
  have S0 : CallFix p m c cL_openPages 5 s [.ref (q 31), .int p0, .int p1, .ref o].toArray (Cond.codeWith yL_openPages cL_openPages 5 (some .int) [(0, 10, 13, 13), (0, 10, 17, 15)] :: fz_WA) RL := ⟨hx, hb, hml, hown, hts⟩
  have hl : lv_has ls 5 [(0, .ref (q 31)), (1, .int p0), (2, .int p1), (3, .ref o)] := hl
  refine lv_aload_n hx hb dL_openPages_0 rfl (lv_at hl 3 rfl) ?_
  refine lv_iconst (v := 0) hx hb dL_openPages_1 (by decide) ?_
  refine lv_aload_n hx hb dL_openPages_2 rfl (lv_at hl 0 rfl) ?_
  refine lv_iload_n hx hb dL_openPages_3 rfl (lv_at hl 1 rfl) ?_
  refine lv_iload_n hx hb dL_openPages_4 rfl (lv_at hl 2 rfl) ?_
  have hPc : va_P D vwCl (fz_WC k q f pa v) s.heap := fz_left hP
  have hDc : va_D (va_A (fz_WC k q f pa v) s.heap.size) (fz_WC k q f pa v) := (fz_leftD hD).self
  have hFc := va_free (wc := (fz_WC k q f pa v)) hD hS hA [0, 1, 2, 3, 4, 5, 6, 7, 8, 9, 10, 11, 12, 13, 14, 15, 16, 17, 18, 19, 20, 21, 22, 23, 24, 25, 26, 27, 28, 29, 30, 31, 32, 33, 34, 35, 36, 37] rfl
  refine fz_hVi (As := [.int p0, .int p1]) (rest := [.int 0, .ref o]) S0 (c_openPages l hl0 (va_A (fz_WC k q f pa v) s.heap.size) D k q f pa v p0 p1 g_v_1 g_f_4_0 g_f_7_0) (fz_cwV (C := RX9) 2 hts fm_693 fm_694 fm_695 fm_696 fm_6 rfl rfl ⟨by decide, by decide, by decide +kernel⟩ ⟨Nat.le_of_ble_eq_true rfl, Nat.le_of_ble_eq_true rfl⟩) (va_recv hK hP (ci := 13) (q0 := 31) rfl rfl) hFc (fun a9 h9 => Or.inr h9) hG hS hPc hK hDc rfl hl.1 rfl (Nat.le_of_ble_eq_true rfl) dL_openPages_5 ⟨Nat.le_of_ble_eq_true rfl, Nat.le_of_ble_eq_true rfl⟩ (fun E9 ce q9 H locs hE hz1 hk1 hS h1 h2 h3 => ?_) (fun r u H locs hw hz1 hk1 hP1 hS => ?_)
  · obtain ⟨hPo, hDo⟩ := va_join (wr := [(o, .inl (k 5, 1, .inr (.inl g)))]) (w1 := []) hP hD [0, 1, 2, 3, 4, 5, 6, 7, 8, 9, 10, 11, 12, 13, 14, 15, 16, 17, 18, 19, 20, 21, 22, 23, 24, 25, 26, 27, 28, 29, 30, 31, 32, 33, 34, 35, 36, 37] [38] rfl rfl (by decide) (by decide) hk1 hFc fz_nil fz_nilD
    have hPo : va_P D vwCl [(o, .inl (k 5, 1, .inr (.inl g)))] H := hPo
    rcases hE with ⟨rfl, hc9⟩ | ⟨rfl, hc9⟩
    · refine vx_catch (own := RL) (name := "java/lang/IndexOutOfBoundsException") hown [] ⟨0, 10, 13, 13⟩ [⟨0, 10, 17, 15⟩] (htab.trans rfl) (fun z hz => by cases hz) (by decide) (by decide) (hts _ (fz_m fm_654)) (fz_cast hG fm_653) h1 h2 h3 ?_
      refine lv_astore (lv' := [(4, .ref q9), (0, .ref (q 31)), (1, .int p0), (2, .int p1), (3, .ref o)]) hx hb dL_openPages_13 hl (by decide) rfl (fun ls hl => ?_)
      refine lv_iconst (v := 1) hx hb dL_openPages_15 (by decide) ?_
      exact vx_ret (fz_iret hx hb hr rfl hlocks hS dL_openPages_16 g (Or.inr (Or.inl ⟨rfl, hc9⟩)) hPo (Nat.le_of_ble_eq_true rfl) (Nat.le_of_ble_eq_true rfl))
    · refine vx_catch (own := RL) (name := "java/lang/IllegalArgumentException") hown [⟨0, 10, 13, 13⟩] ⟨0, 10, 17, 15⟩ [] (htab.trans rfl) (List.forall_mem_cons.mpr ⟨Or.inr ⟨by decide, "java/lang/IndexOutOfBoundsException", hts _ (fz_m fm_654), hG.2.2.2.2.2.1 ("java/lang/IllegalArgumentException", "java/lang/IndexOutOfBoundsException") (by decide)⟩, (fun z hz => by cases hz)⟩) (by decide) (by decide) (hts _ (fz_m fm_656)) (fz_cast hG fm_655) h1 h2 h3 ?_
      refine lv_astore (lv' := [(4, .ref q9), (0, .ref (q 31)), (1, .int p0), (2, .int p1), (3, .ref o)]) hx hb dL_openPages_17 hl (by decide) rfl (fun ls hl => ?_)
      refine lv_iconst (v := 2) hx hb dL_openPages_19 (by decide) ?_
      exact vx_ret (fz_iret hx hb hr rfl hlocks hS dL_openPages_20 g (Or.inr (Or.inr ⟨rfl, hc9⟩)) hPo (Nat.le_of_ble_eq_true rfl) (Nat.le_of_ble_eq_true rfl))
  · obtain ⟨hPo, hDo⟩ := va_join (wr := [(o, .inl (k 5, 1, .inr (.inl g)))]) (w1 := []) hP hD [0, 1, 2, 3, 4, 5, 6, 7, 8, 9, 10, 11, 12, 13, 14, 15, 16, 17, 18, 19, 20, 21, 22, 23, 24, 25, 26, 27, 28, 29, 30, 31, 32, 33, 34, 35, 36, 37] [38] rfl rfl (by decide) (by decide) hk1 hFc hP1 fz_nilD
    have hPo : va_P D vwCl [(o, .inl (k 5, 1, .inr (.inl g)))] H := hPo
    have hDo : va_D A [(o, .inl (k 5, 1, .inr (.inl g)))] := hDo
    obtain ⟨rfl, hc9⟩ := hw
    refine lv_i2l hx hb dL_openPages_8 rfl ?_
    refine va_last hx hb hK hPo hDo hS 0 5 rfl rfl (fz_vin (by decide)) dL_openPages_9 (fun H locs hPo hDo hS => ?_)
    refine lv_goto (tgt := 21) hx hb dL_openPages_10 (by decide) ?_
    refine lv_iconst (v := 0) hx hb dL_openPages_21 (by decide) ?_
    exact vx_ret (fz_iret hx hb hr rfl hlocks hS dL_openPages_22 (vp_updL g (0 : Int32).toNatClampNeg (0 : Int32).toInt64) (Or.inl ⟨rfl, rfl, hc9⟩) hPo (Nat.le_of_ble_eq_true rfl) (Nat.le_of_ble_eq_true rfl))

set_option maxHeartbeats 4000000 in
set_option maxRecDepth 100000 in
theorem h_firstDay (l : Launch) (hl0 : l.stackTraces = false) (A : Nat → Prop) (D : va_G) (k : Nat → ClassId) (q : Nat → Nat) (f : Nat → Nat → Int32) (pa : Nat → Option Nat) (v : Nat → Int32) (o : Nat) (g : (Nat → Int64)) (p0 : Int32) (g_v_7 : v 7 = 0) :
    vx_Met l yL_firstDay (Cond.codeWith yL_firstDay cL_firstDay 4 (some .int) [(0, 9, 12, 13), (0, 9, 15, 49)] :: fz_WA) { frames := 36, cells := 1, slots := 6, locals := 480 } (va_Pc [.ref (q 31), .int p0, .ref o] (fz_PC A D (fz_tys k) (fz_WC k q f pa v ++ [(o, .inl (k 5, 1, .inr (.inl g)))]))) (fz_QI D A (fun (u : (Nat → Int64)) => [(o, .inl (k 5, 1, .inr (.inl u)))]) (fun (r : Int32) (u : (Nat → Int64)) => (r = 1 ∧ True))) (fz_XC (fun _ => False) A) 1 6 A := by
  refine fz_ofH (by decide +kernel) (Nat.le_of_ble_eq_true rfl) ?_
  intro p e s m below meth c hx hb hr hml hown hlocks hts htab hA hP hK hD hG hS ls hl
  have hown : s.vm.findClass RL = some m.cls := hown
  have S0 : CallFix p m c cL_firstDay 4 s [.ref (q 31), .int p0, .ref o].toArray (Cond.codeWith yL_firstDay cL_firstDay 4 (some .int) [(0, 9, 12, 13), (0, 9, 15, 49)] :: fz_WA) RL := ⟨hx, hb, hml, hown, hts⟩
  have hl : lv_has ls 4 [(0, .ref (q 31)), (1, .int p0), (2, .ref o)] := hl
  refine lv_aload_n hx hb dL_firstDay_0 rfl (lv_at hl 2 rfl) ?_
  refine lv_iconst (v := 0) hx hb dL_firstDay_1 (by decide) ?_
  refine lv_aload_n hx hb dL_firstDay_2 rfl (lv_at hl 0 rfl) ?_
  refine lv_iload_n hx hb dL_firstDay_3 rfl (lv_at hl 1 rfl) ?_
  have hPc : va_P D vwCl (fz_WC k q f pa v) s.heap := fz_left hP
  have hDc : va_D (va_A (fz_WC k q f pa v) s.heap.size) (fz_WC k q f pa v) := (fz_leftD hD).self
  have hFc := va_free (wc := (fz_WC k q f pa v)) hD hS hA [0, 1, 2, 3, 4, 5, 6, 7, 8, 9, 10, 11, 12, 13, 14, 15, 16, 17, 18, 19, 20, 21, 22, 23, 24, 25, 26, 27, 28, 29, 30, 31, 32, 33, 34, 35, 36, 37] rfl
  refine fz_hVi (As := [.int p0]) (rest := [.int 0, .ref o]) S0 (c_firstDay l hl0 (va_A (fz_WC k q f pa v) s.heap.size) D k q f pa v p0 g_v_7) (fz_cwV (C := RX9) 1 hts fm_698 fm_699 fm_700 fm_701 fm_6 rfl rfl ⟨by decide, by decide, by decide +kernel⟩ ⟨Nat.le_of_ble_eq_true rfl, Nat.le_of_ble_eq_true rfl⟩) (va_recv hK hP (ci := 13) (q0 := 31) rfl rfl) hFc (fun a9 h9 => Or.inr h9) hG hS hPc hK hDc rfl hl.1 rfl (Nat.le_of_ble_eq_true rfl) dL_firstDay_4 ⟨Nat.le_of_ble_eq_true rfl, Nat.le_of_ble_eq_true rfl⟩ (fun E9 ce q9 H locs hE hz1 hk1 hS h1 h2 h3 => ?_) (fun r u H locs hw hz1 hk1 hP1 hS => ?_)
  · obtain ⟨hPo, hDo⟩ := va_join (wr := [(o, .inl (k 5, 1, .inr (.inl g)))]) (w1 := []) hP hD [0, 1, 2, 3, 4, 5, 6, 7, 8, 9, 10, 11, 12, 13, 14, 15, 16, 17, 18, 19, 20, 21, 22, 23, 24, 25, 26, 27, 28, 29, 30, 31, 32, 33, 34, 35, 36, 37] [38] rfl rfl (by decide) (by decide) hk1 hFc fz_nil fz_nilD
    have hPo : va_P D vwCl [(o, .inl (k 5, 1, .inr (.inl g)))] H := hPo
    rcases hE with ⟨rfl, hc9⟩
    · refine vx_catch (own := RL) (name := "java/lang/IndexOutOfBoundsException") hown [] ⟨0, 9, 12, 13⟩ [⟨0, 9, 15, 49⟩] (htab.trans rfl) (fun z hz => by cases hz) (by decide) (by decide) (hts _ (fz_m fm_654)) (fz_cast hG fm_653) h1 h2 h3 ?_
      refine lv_astore_n (lv' := [(3, .ref q9), (0, .ref (q 31)), (1, .int p0), (2, .ref o)]) hx hb dL_firstDay_12 rfl hl (by decide) rfl (fun ls hl => ?_)
      refine lv_iconst (v := 1) hx hb dL_firstDay_13 (by decide) ?_
      exact vx_ret (fz_iret hx hb hr rfl hlocks hS dL_firstDay_14 g ⟨rfl, trivial⟩ hPo (Nat.le_of_ble_eq_true rfl) (Nat.le_of_ble_eq_true rfl))
  · obtain ⟨hPo, hDo⟩ := va_join (wr := [(o, .inl (k 5, 1, .inr (.inl g)))]) (w1 := []) hP hD [0, 1, 2, 3, 4, 5, 6, 7, 8, 9, 10, 11, 12, 13, 14, 15, 16, 17, 18, 19, 20, 21, 22, 23, 24, 25, 26, 27, 28, 29, 30, 31, 32, 33, 34, 35, 36, 37] [38] rfl rfl (by decide) (by decide) hk1 hFc hP1 fz_nilD
    have hPo : va_P D vwCl [(o, .inl (k 5, 1, .inr (.inl g)))] H := hPo
    have hDo : va_D A [(o, .inl (k 5, 1, .inr (.inl g)))] := hDo
    exact (show False from hw).elim

set_option maxHeartbeats 4000000 in
set_option maxRecDepth 100000 in
theorem h_addContainer (l : Launch) (hl0 : l.stackTraces = false) (A : Nat → Prop) (D : va_G) (k : Nat → ClassId) (q : Nat → Nat) (f : Nat → Nat → Int32) (pa : Nat → Option Nat) (v : Nat → Int32) (o : Nat) (g : (Nat → Int64)) (p0 : Int32) (g_v_4 : v 4 = 0) (g_v_3 : v 3 = 0) (g_v_9 : v 9 = 0) (g_v_1 : v 1 = 1) (g_v_2 : v 2 = 1) (g_v_5 : v 5 = 0) (g_v_6 : v 6 = 0) (g_v_7 : v 7 = 0) (g_v_8 : v 8 = 0) (g_v_0 : v 0 = 3) (g_v_10 : v 10 = 0) (g_pa_1 : pa 1 = none) :
    vx_Met l yL_addContainer (Cond.codeWith yL_addContainer cL_addContainer 4 (some .int) [(0, 9, 12, 15), (0, 9, 15, 17)] :: fz_WA) { frames := 72, cells := 32, slots := 1705, locals := 960 } (va_Pc [.ref (q 31), .int p0, .ref o] (fz_PC A D (fz_tys k) (fz_WC k q f pa v ++ [(o, .inl (k 5, 1, .inr (.inl g)))]))) (fz_QI D A (fun (u : (Nat → Int64)) => [(o, .inl (k 5, 1, .inr (.inl u)))]) (fun (r : Int32) (u : (Nat → Int64)) => (r = 0 ∧ u 0 = (0 : Int32).toInt64 ∧ (1 ≤ p0 ∧ p0 ≤ 200)) ∨ (r = 1 ∧ ¬ ((1 ≤ p0 ∧ p0 ≤ 200))))) (fz_XC (fun _ => False) A) 32 1705 A := by
  refine fz_ofH (by decide +kernel) (Nat.le_of_ble_eq_true rfl) ?_
  intro p e s m below meth c hx hb hr hml hown hlocks hts htab hA hP hK hD hG hS ls hl
  have hown : s.vm.findClass RL = some m.cls := hown
  have S0 : CallFix p m c cL_addContainer 4 s [.ref (q 31), .int p0, .ref o].toArray (Cond.codeWith yL_addContainer cL_addContainer 4 (some .int) [(0, 9, 12, 15), (0, 9, 15, 17)] :: fz_WA) RL := ⟨hx, hb, hml, hown, hts⟩
  have hl : lv_has ls 4 [(0, .ref (q 31)), (1, .int p0), (2, .ref o)] := hl
  refine lv_aload_n hx hb dL_addContainer_0 rfl (lv_at hl 2 rfl) ?_
  refine lv_iconst (v := 0) hx hb dL_addContainer_1 (by decide) ?_
  refine lv_aload_n hx hb dL_addContainer_2 rfl (lv_at hl 0 rfl) ?_
  refine lv_iload_n hx hb dL_addContainer_3 rfl (lv_at hl 1 rfl) ?_
  have hPc : va_P D vwCl (fz_WC k q f pa v) s.heap := fz_left hP
  have hDc : va_D (va_A (fz_WC k q f pa v) s.heap.size) (fz_WC k q f pa v) := (fz_leftD hD).self
  have hFc := va_free (wc := (fz_WC k q f pa v)) hD hS hA [0, 1, 2, 3, 4, 5, 6, 7, 8, 9, 10, 11, 12, 13, 14, 15, 16, 17, 18, 19, 20, 21, 22, 23, 24, 25, 26, 27, 28, 29, 30, 31, 32, 33, 34, 35, 36, 37] rfl
  refine fz_hVi (As := [.int p0]) (rest := [.int 0, .ref o]) S0 (c_addContainer l hl0 (va_A (fz_WC k q f pa v) s.heap.size) D k q f pa v p0 g_v_4 g_v_3 g_v_9 g_v_1 g_v_2 g_v_5 g_v_6 g_v_7 g_v_8 g_v_0 g_v_10 g_pa_1) (fz_cwV (C := RX9) 1 hts fm_703 fm_704 fm_705 fm_706 fm_6 rfl rfl ⟨by decide, by decide, by decide +kernel⟩ ⟨Nat.le_of_ble_eq_true rfl, Nat.le_of_ble_eq_true rfl⟩) (va_recv hK hP (ci := 13) (q0 := 31) rfl rfl) hFc (fun a9 h9 => Or.inr h9) hG hS hPc hK hDc rfl hl.1 rfl (Nat.le_of_ble_eq_true rfl) dL_addContainer_4 ⟨Nat.le_of_ble_eq_true rfl, Nat.le_of_ble_eq_true rfl⟩ (fun E9 ce q9 H locs hE hz1 hk1 hS h1 h2 h3 => ?_) (fun r u H locs hw hz1 hk1 hP1 hS => ?_)
  · obtain ⟨hPo, hDo⟩ := va_join (wr := [(o, .inl (k 5, 1, .inr (.inl g)))]) (w1 := []) hP hD [0, 1, 2, 3, 4, 5, 6, 7, 8, 9, 10, 11, 12, 13, 14, 15, 16, 17, 18, 19, 20, 21, 22, 23, 24, 25, 26, 27, 28, 29, 30, 31, 32, 33, 34, 35, 36, 37] [38] rfl rfl (by decide) (by decide) hk1 hFc fz_nil fz_nilD
    have hPo : va_P D vwCl [(o, .inl (k 5, 1, .inr (.inl g)))] H := hPo
    rcases hE with ⟨rfl, hc9⟩
    · refine vx_catch (own := RL) (name := "java/lang/IllegalArgumentException") hown [] ⟨0, 9, 12, 15⟩ [⟨0, 9, 15, 17⟩] (htab.trans rfl) (fun z hz => by cases hz) (by decide) (by decide) (hts _ (fz_m fm_656)) (fz_cast hG fm_655) h1 h2 h3 ?_
      refine lv_astore_n (lv' := [(3, .ref q9), (0, .ref (q 31)), (1, .int p0), (2, .ref o)]) hx hb dL_addContainer_12 rfl hl (by decide) rfl (fun ls hl => ?_)
      refine lv_iconst (v := 1) hx hb dL_addContainer_13 (by decide) ?_
      exact vx_ret (fz_iret hx hb hr rfl hlocks hS dL_addContainer_14 g (Or.inr ⟨rfl, hc9⟩) hPo (Nat.le_of_ble_eq_true rfl) (Nat.le_of_ble_eq_true rfl))
  · obtain ⟨hPo, hDo⟩ := va_join (wr := [(o, .inl (k 5, 1, .inr (.inl g)))]) (w1 := []) hP hD [0, 1, 2, 3, 4, 5, 6, 7, 8, 9, 10, 11, 12, 13, 14, 15, 16, 17, 18, 19, 20, 21, 22, 23, 24, 25, 26, 27, 28, 29, 30, 31, 32, 33, 34, 35, 36, 37] [38] rfl rfl (by decide) (by decide) hk1 hFc hP1 fz_nilD
    have hPo : va_P D vwCl [(o, .inl (k 5, 1, .inr (.inl g)))] H := hPo
    have hDo : va_D A [(o, .inl (k 5, 1, .inr (.inl g)))] := hDo
    obtain ⟨rfl, hc9⟩ := hw
    refine lv_i2l hx hb dL_addContainer_7 rfl ?_
    refine va_last hx hb hK hPo hDo hS 0 5 rfl rfl (fz_vin (by decide)) dL_addContainer_8 (fun H locs hPo hDo hS => ?_)
    refine lv_goto (tgt := 18) hx hb dL_addContainer_9 (by decide) ?_
    refine lv_iconst (v := 0) hx hb dL_addContainer_18 (by decide) ?_
    exact vx_ret (fz_iret hx hb hr rfl hlocks hS dL_addContainer_19 (vp_updL g (0 : Int32).toNatClampNeg (0 : Int32).toInt64) (Or.inl ⟨rfl, rfl, hc9⟩) hPo (Nat.le_of_ble_eq_true rfl) (Nat.le_of_ble_eq_true rfl))

set_option maxHeartbeats 4000000 in
set_option maxRecDepth 100000 in
theorem h_put (l : Launch) (hl0 : l.stackTraces = false) (A : Nat → Prop) (D : va_G) (k : Nat → ClassId) (q : Nat → Nat) (f : Nat → Nat → Int32) (pa : Nat → Option Nat) (v : Nat → Int32) (o : Nat) (g : (Nat → Int64)) (p0 p1 : Int32) (g_v_1 : v 1 = 1) (g_f_4_0 : f 4 0 = 0) (g_v_3 : v 3 = 0) :
    vx_Met l yL_put (Cond.codeWith yL_put cL_put 5 (some .int) [(0, 10, 13, 13), (0, 10, 17, 15), (0, 10, 21, 17)] :: fz_WA) { frames := 36, cells := 2, slots := 12, locals := 480 } (va_Pc [.ref (q 31), .int p0, .int p1, .ref o] (fz_PC A D (fz_tys k) (fz_WC k q f pa v ++ [(o, .inl (k 5, 1, .inr (.inl g)))]))) (fz_QI D A (fun (u : (Nat → Int64)) => [(o, .inl (k 5, 1, .inr (.inl u)))]) (fun (r : Int32) (u : (Nat → Int64)) => (r = 1 ∧ True))) (fz_XC (fun _ => False) A) 2 12 A := by
  refine fz_ofH (by decide +kernel) (Nat.le_of_ble_eq_true rfl) ?_
  intro p e s m below meth c hx hb hr hml hown hlocks hts htab hA hP hK hD hG hS ls hl
  have hown : s.vm.findClass RL = some m.cls := hown
  have S0 : CallFix p m c cL_put 5 s [.ref (q 31), .int p0, .int p1, .ref o].toArray (Cond.codeWith yL_put cL_put 5 (some .int) [(0, 10, 13, 13), (0, 10, 17, 15), (0, 10, 21, 17)] :: fz_WA) RL := ⟨hx, hb, hml, hown, hts⟩
  have hl : lv_has ls 5 [(0, .ref (q 31)), (1, .int p0), (2, .int p1), (3, .ref o)] := hl
  refine lv_aload_n hx hb dL_put_0 rfl (lv_at hl 3 rfl) ?_
  refine lv_iconst (v := 0) hx hb dL_put_1 (by decide) ?_
  refine lv_aload_n hx hb dL_put_2 rfl (lv_at hl 0 rfl) ?_
  refine lv_iload_n hx hb dL_put_3 rfl (lv_at hl 1 rfl) ?_
  refine lv_iload_n hx hb dL_put_4 rfl (lv_at hl 2 rfl) ?_
  have hPc : va_P D vwCl (fz_WC k q f pa v) s.heap := fz_left hP
  have hDc : va_D (va_A (fz_WC k q f pa v) s.heap.size) (fz_WC k q f pa v) := (fz_leftD hD).self
  have hFc := va_free (wc := (fz_WC k q f pa v)) hD hS hA [0, 1, 2, 3, 4, 5, 6, 7, 8, 9, 10, 11, 12, 13, 14, 15, 16, 17, 18, 19, 20, 21, 22, 23, 24, 25, 26, 27, 28, 29, 30, 31, 32, 33, 34, 35, 36, 37] rfl
  refine fz_hVi (As := [.int p0, .int p1]) (rest := [.int 0, .ref o]) S0 (c_put l hl0 (va_A (fz_WC k q f pa v) s.heap.size) D k q f pa v p0 p1 g_v_1 g_f_4_0 g_v_3) (fz_cwV (C := RX9) 2 hts fm_708 fm_709 fm_710 fm_711 fm_6 rfl rfl ⟨by decide, by decide, by decide +kernel⟩ ⟨Nat.le_of_ble_eq_true rfl, Nat.le_of_ble_eq_true rfl⟩) (va_recv hK hP (ci := 13) (q0 := 31) rfl rfl) hFc (fun a9 h9 => Or.inr h9) hG hS hPc hK hDc rfl hl.1 rfl (Nat.le_of_ble_eq_true rfl) dL_put_5 ⟨Nat.le_of_ble_eq_true rfl, Nat.le_of_ble_eq_true rfl⟩ (fun E9 ce q9 H locs hE hz1 hk1 hS h1 h2 h3 => ?_) (fun r u H locs hw hz1 hk1 hP1 hS => ?_)
  · obtain ⟨hPo, hDo⟩ := va_join (wr := [(o, .inl (k 5, 1, .inr (.inl g)))]) (w1 := []) hP hD [0, 1, 2, 3, 4, 5, 6, 7, 8, 9, 10, 11, 12, 13, 14, 15, 16, 17, 18, 19, 20, 21, 22, 23, 24, 25, 26, 27, 28, 29, 30, 31, 32, 33, 34, 35, 36, 37] [38] rfl rfl (by decide) (by decide) hk1 hFc fz_nil fz_nilD
    have hPo : va_P D vwCl [(o, .inl (k 5, 1, .inr (.inl g)))] H := hPo
    rcases hE with ⟨rfl, hc9⟩
    · refine vx_catch (own := RL) (name := "java/lang/IndexOutOfBoundsException") hown [] ⟨0, 10, 13, 13⟩ [⟨0, 10, 17, 15⟩, ⟨0, 10, 21, 17⟩] (htab.trans rfl) (fun z hz => by cases hz) (by decide) (by decide) (hts _ (fz_m fm_654)) (fz_cast hG fm_653) h1 h2 h3 ?_
      refine lv_astore (lv' := [(4, .ref q9), (0, .ref (q 31)), (1, .int p0), (2, .int p1), (3, .ref o)]) hx hb dL_put_13 hl (by decide) rfl (fun ls hl => ?_)
      refine lv_iconst (v := 1) hx hb dL_put_15 (by decide) ?_
      exact vx_ret (fz_iret hx hb hr rfl hlocks hS dL_put_16 g ⟨rfl, trivial⟩ hPo (Nat.le_of_ble_eq_true rfl) (Nat.le_of_ble_eq_true rfl))
  · obtain ⟨hPo, hDo⟩ := va_join (wr := [(o, .inl (k 5, 1, .inr (.inl g)))]) (w1 := []) hP hD [0, 1, 2, 3, 4, 5, 6, 7, 8, 9, 10, 11, 12, 13, 14, 15, 16, 17, 18, 19, 20, 21, 22, 23, 24, 25, 26, 27, 28, 29, 30, 31, 32, 33, 34, 35, 36, 37] [38] rfl rfl (by decide) (by decide) hk1 hFc hP1 fz_nilD
    have hPo : va_P D vwCl [(o, .inl (k 5, 1, .inr (.inl g)))] H := hPo
    have hDo : va_D A [(o, .inl (k 5, 1, .inr (.inl g)))] := hDo
    exact (show False from hw).elim

set_option maxHeartbeats 4000000 in
set_option maxRecDepth 100000 in
theorem h_takeOut (l : Launch) (hl0 : l.stackTraces = false) (A : Nat → Prop) (D : va_G) (k : Nat → ClassId) (q : Nat → Nat) (f : Nat → Nat → Int32) (pa : Nat → Option Nat) (v : Nat → Int32) (o : Nat) (g : (Nat → Int64)) (p0 : Int32) (g_v_1 : v 1 = 1) (g_f_4_0 : f 4 0 = 0) (g_f_18_0 : f 18 0 = (-1)) :
    vx_Met l yL_takeOut (Cond.codeWith yL_takeOut cL_takeOut 4 (some .int) [(0, 9, 12, 13), (0, 9, 15, 17)] :: fz_WA) { frames := 36, cells := 2, slots := 12, locals := 480 } (va_Pc [.ref (q 31), .int p0, .ref o] (fz_PC A D (fz_tys k) (fz_WC k q f pa v ++ [(o, .inl (k 5, 1, .inr (.inl g)))]))) (fz_QI D A (fun (u : (Nat → Int64)) => [(o, .inl (k 5, 1, .inr (.inl u)))]) (fun (r : Int32) (u : (Nat → Int64)) => (r = 1 ∧ ¬ (p0 = 0)) ∨ (r = 2 ∧ p0 = 0))) (fz_XC (fun _ => False) A) 2 12 A := by
  refine fz_ofH (by decide +kernel) (Nat.le_of_ble_eq_true rfl) ?_
  intro p e s m below meth c hx hb hr hml hown hlocks hts htab hA hP hK hD hG hS ls hl
  have hown : s.vm.findClass RL = some m.cls := hown
  have S0 : CallFix p m c cL_takeOut 4 s [.ref (q 31), .int p0, .ref o].toArray (Cond.codeWith yL_takeOut cL_takeOut 4 (some .int) [(0, 9, 12, 13), (0, 9, 15, 17)] :: fz_WA) RL := ⟨hx, hb, hml, hown, hts⟩
  have hl : lv_has ls 4 [(0, .ref (q 31)), (1, .int p0), (2, .ref o)] := hl
  refine lv_aload_n hx hb dL_takeOut_0 rfl (lv_at hl 2 rfl) ?_
  refine lv_iconst (v := 0) hx hb dL_takeOut_1 (by decide) ?_
  refine lv_aload_n hx hb dL_takeOut_2 rfl (lv_at hl 0 rfl) ?_
  refine lv_iload_n hx hb dL_takeOut_3 rfl (lv_at hl 1 rfl) ?_
  have hPc : va_P D vwCl (fz_WC k q f pa v) s.heap := fz_left hP
  have hDc : va_D (va_A (fz_WC k q f pa v) s.heap.size) (fz_WC k q f pa v) := (fz_leftD hD).self
  have hFc := va_free (wc := (fz_WC k q f pa v)) hD hS hA [0, 1, 2, 3, 4, 5, 6, 7, 8, 9, 10, 11, 12, 13, 14, 15, 16, 17, 18, 19, 20, 21, 22, 23, 24, 25, 26, 27, 28, 29, 30, 31, 32, 33, 34, 35, 36, 37] rfl
  refine fz_hVi (As := [.int p0]) (rest := [.int 0, .ref o]) S0 (c_takeOut l hl0 (va_A (fz_WC k q f pa v) s.heap.size) D k q f pa v p0 g_v_1 g_f_4_0 g_f_18_0) (fz_cwV (C := RX9) 1 hts fm_713 fm_714 fm_715 fm_716 fm_6 rfl rfl ⟨by decide, by decide, by decide +kernel⟩ ⟨Nat.le_of_ble_eq_true rfl, Nat.le_of_ble_eq_true rfl⟩) (va_recv hK hP (ci := 13) (q0 := 31) rfl rfl) hFc (fun a9 h9 => Or.inr h9) hG hS hPc hK hDc rfl hl.1 rfl (Nat.le_of_ble_eq_true rfl) dL_takeOut_4 ⟨Nat.le_of_ble_eq_true rfl, Nat.le_of_ble_eq_true rfl⟩ (fun E9 ce q9 H locs hE hz1 hk1 hS h1 h2 h3 => ?_) (fun r u H locs hw hz1 hk1 hP1 hS => ?_)
  · obtain ⟨hPo, hDo⟩ := va_join (wr := [(o, .inl (k 5, 1, .inr (.inl g)))]) (w1 := []) hP hD [0, 1, 2, 3, 4, 5, 6, 7, 8, 9, 10, 11, 12, 13, 14, 15, 16, 17, 18, 19, 20, 21, 22, 23, 24, 25, 26, 27, 28, 29, 30, 31, 32, 33, 34, 35, 36, 37] [38] rfl rfl (by decide) (by decide) hk1 hFc fz_nil fz_nilD
    have hPo : va_P D vwCl [(o, .inl (k 5, 1, .inr (.inl g)))] H := hPo
    rcases hE with ⟨rfl, hc9⟩ | ⟨rfl, hc9⟩
    · refine vx_catch (own := RL) (name := "java/lang/IndexOutOfBoundsException") hown [] ⟨0, 9, 12, 13⟩ [⟨0, 9, 15, 17⟩] (htab.trans rfl) (fun z hz => by cases hz) (by decide) (by decide) (hts _ (fz_m fm_654)) (fz_cast hG fm_653) h1 h2 h3 ?_
      refine lv_astore_n (lv' := [(3, .ref q9), (0, .ref (q 31)), (1, .int p0), (2, .ref o)]) hx hb dL_takeOut_12 rfl hl (by decide) rfl (fun ls hl => ?_)
      refine lv_iconst (v := 1) hx hb dL_takeOut_13 (by decide) ?_
      exact vx_ret (fz_iret hx hb hr rfl hlocks hS dL_takeOut_14 g (Or.inl ⟨rfl, hc9⟩) hPo (Nat.le_of_ble_eq_true rfl) (Nat.le_of_ble_eq_true rfl))
    · refine vx_catch (own := RL) (name := "java/lang/IllegalStateException") hown [⟨0, 9, 12, 13⟩] ⟨0, 9, 15, 17⟩ [] (htab.trans rfl) (List.forall_mem_cons.mpr ⟨Or.inr ⟨by decide, "java/lang/IndexOutOfBoundsException", hts _ (fz_m fm_654), hG.2.2.2.2.2.1 ("java/lang/IllegalStateException", "java/lang/IndexOutOfBoundsException") (by decide)⟩, (fun z hz => by cases hz)⟩) (by decide) (by decide) (hts _ (fz_m fm_718)) (fz_cast hG fm_717) h1 h2 h3 ?_
      refine lv_astore_n (lv' := [(3, .ref q9), (0, .ref (q 31)), (1, .int p0), (2, .ref o)]) hx hb dL_takeOut_15 rfl hl (by decide) rfl (fun ls hl => ?_)
      refine lv_iconst (v := 2) hx hb dL_takeOut_16 (by decide) ?_
      exact vx_ret (fz_iret hx hb hr rfl hlocks hS dL_takeOut_17 g (Or.inr ⟨rfl, hc9⟩) hPo (Nat.le_of_ble_eq_true rfl) (Nat.le_of_ble_eq_true rfl))
  · obtain ⟨hPo, hDo⟩ := va_join (wr := [(o, .inl (k 5, 1, .inr (.inl g)))]) (w1 := []) hP hD [0, 1, 2, 3, 4, 5, 6, 7, 8, 9, 10, 11, 12, 13, 14, 15, 16, 17, 18, 19, 20, 21, 22, 23, 24, 25, 26, 27, 28, 29, 30, 31, 32, 33, 34, 35, 36, 37] [38] rfl rfl (by decide) (by decide) hk1 hFc hP1 fz_nilD
    have hPo : va_P D vwCl [(o, .inl (k 5, 1, .inr (.inl g)))] H := hPo
    have hDo : va_D A [(o, .inl (k 5, 1, .inr (.inl g)))] := hDo
    exact (show False from hw).elim

set_option maxHeartbeats 4000000 in
set_option maxRecDepth 100000 in
theorem h_split (l : Launch) (hl0 : l.stackTraces = false) (A : Nat → Prop) (D : va_G) (k : Nat → ClassId) (q : Nat → Nat) (f : Nat → Nat → Int32) (pa : Nat → Option Nat) (v : Nat → Int32) (o : Nat) (g : (Nat → Int64)) (p0 p1 p2 : Int32) (g_v_3 : v 3 = 0) :
    vx_Met l yL_split (Cond.codeWith yL_split cL_split 6 (some .int) [(0, 12, 15, 13), (0, 12, 19, 15), (0, 12, 23, 17)] :: fz_WA) { frames := 36, cells := 1, slots := 6, locals := 480 } (va_Pc [.ref (q 31), .int p0, .int p1, .int p2, .ref o] (fz_PC A D (fz_tys k) (fz_WC k q f pa v ++ [(o, .inl (k 5, 1, .inr (.inl g)))]))) (fz_QI D A (fun (u : (Nat → Int64)) => [(o, .inl (k 5, 1, .inr (.inl u)))]) (fun (r : Int32) (u : (Nat → Int64)) => (r = 1 ∧ True))) (fz_XC (fun _ => False) A) 1 6 A := by
  refine fz_ofH (by decide +kernel) (Nat.le_of_ble_eq_true rfl) ?_
  intro p e s m below meth c hx hb hr hml hown hlocks hts htab hA hP hK hD hG hS ls hl
  have hown : s.vm.findClass RL = some m.cls := hown
  have S0 : CallFix p m c cL_split 6 s [.ref (q 31), .int p0, .int p1, .int p2, .ref o].toArray (Cond.codeWith yL_split cL_split 6 (some .int) [(0, 12, 15, 13), (0, 12, 19, 15), (0, 12, 23, 17)] :: fz_WA) RL := ⟨hx, hb, hml, hown, hts⟩
  have hl : lv_has ls 6 [(0, .ref (q 31)), (1, .int p0), (2, .int p1), (3, .int p2), (4, .ref o)] := hl
  refine lv_aload hx hb dL_split_0 (lv_at hl 4 rfl) ?_
  refine lv_iconst (v := 0) hx hb dL_split_2 (by decide) ?_
  refine lv_aload_n hx hb dL_split_3 rfl (lv_at hl 0 rfl) ?_
  refine lv_iload_n hx hb dL_split_4 rfl (lv_at hl 1 rfl) ?_
  refine lv_iload_n hx hb dL_split_5 rfl (lv_at hl 2 rfl) ?_
  refine lv_iload_n hx hb dL_split_6 rfl (lv_at hl 3 rfl) ?_
  have hPc : va_P D vwCl (fz_WC k q f pa v) s.heap := fz_left hP
  have hDc : va_D (va_A (fz_WC k q f pa v) s.heap.size) (fz_WC k q f pa v) := (fz_leftD hD).self
  have hFc := va_free (wc := (fz_WC k q f pa v)) hD hS hA [0, 1, 2, 3, 4, 5, 6, 7, 8, 9, 10, 11, 12, 13, 14, 15, 16, 17, 18, 19, 20, 21, 22, 23, 24, 25, 26, 27, 28, 29, 30, 31, 32, 33, 34, 35, 36, 37] rfl
  refine fz_hVi (As := [.int p0, .int p1, .int p2]) (rest := [.int 0, .ref o]) S0 (c_split l hl0 (va_A (fz_WC k q f pa v) s.heap.size) D k q f pa v p0 p1 p2 g_v_3) (fz_cwV (C := RX9) 3 hts fm_720 fm_721 fm_722 fm_723 fm_6 rfl rfl ⟨by decide, by decide, by decide +kernel⟩ ⟨Nat.le_of_ble_eq_true rfl, Nat.le_of_ble_eq_true rfl⟩) (va_recv hK hP (ci := 13) (q0 := 31) rfl rfl) hFc (fun a9 h9 => Or.inr h9) hG hS hPc hK hDc rfl hl.1 rfl (Nat.le_of_ble_eq_true rfl) dL_split_7 ⟨Nat.le_of_ble_eq_true rfl, Nat.le_of_ble_eq_true rfl⟩ (fun E9 ce q9 H locs hE hz1 hk1 hS h1 h2 h3 => ?_) (fun r u H locs hw hz1 hk1 hP1 hS => ?_)
  · obtain ⟨hPo, hDo⟩ := va_join (wr := [(o, .inl (k 5, 1, .inr (.inl g)))]) (w1 := []) hP hD [0, 1, 2, 3, 4, 5, 6, 7, 8, 9, 10, 11, 12, 13, 14, 15, 16, 17, 18, 19, 20, 21, 22, 23, 24, 25, 26, 27, 28, 29, 30, 31, 32, 33, 34, 35, 36, 37] [38] rfl rfl (by decide) (by decide) hk1 hFc fz_nil fz_nilD
    have hPo : va_P D vwCl [(o, .inl (k 5, 1, .inr (.inl g)))] H := hPo
    rcases hE with ⟨rfl, hc9⟩
    · refine vx_catch (own := RL) (name := "java/lang/IndexOutOfBoundsException") hown [] ⟨0, 12, 15, 13⟩ [⟨0, 12, 19, 15⟩, ⟨0, 12, 23, 17⟩] (htab.trans rfl) (fun z hz => by cases hz) (by decide) (by decide) (hts _ (fz_m fm_654)) (fz_cast hG fm_653) h1 h2 h3 ?_
      refine lv_astore (lv' := [(5, .ref q9), (0, .ref (q 31)), (1, .int p0), (2, .int p1), (3, .int p2), (4, .ref o)]) hx hb dL_split_15 hl (by decide) rfl (fun ls hl => ?_)
      refine lv_iconst (v := 1) hx hb dL_split_17 (by decide) ?_
      exact vx_ret (fz_iret hx hb hr rfl hlocks hS dL_split_18 g ⟨rfl, trivial⟩ hPo (Nat.le_of_ble_eq_true rfl) (Nat.le_of_ble_eq_true rfl))
  · obtain ⟨hPo, hDo⟩ := va_join (wr := [(o, .inl (k 5, 1, .inr (.inl g)))]) (w1 := []) hP hD [0, 1, 2, 3, 4, 5, 6, 7, 8, 9, 10, 11, 12, 13, 14, 15, 16, 17, 18, 19, 20, 21, 22, 23, 24, 25, 26, 27, 28, 29, 30, 31, 32, 33, 34, 35, 36, 37] [38] rfl rfl (by decide) (by decide) hk1 hFc hP1 fz_nilD
    have hPo : va_P D vwCl [(o, .inl (k 5, 1, .inr (.inl g)))] H := hPo
    have hDo : va_D A [(o, .inl (k 5, 1, .inr (.inl g)))] := hDo
    exact (show False from hw).elim

set_option maxHeartbeats 4000000 in
set_option maxRecDepth 100000 in
theorem h_merge (l : Launch) (hl0 : l.stackTraces = false) (A : Nat → Prop) (D : va_G) (k : Nat → ClassId) (q : Nat → Nat) (f : Nat → Nat → Int32) (pa : Nat → Option Nat) (v : Nat → Int32) (o : Nat) (g : (Nat → Int64)) (p0 p1 : Int32) (g_v_3 : v 3 = 0) :
    vx_Met l yL_merge (Cond.codeWith yL_merge cL_merge 5 (some .int) [(0, 10, 13, 13), (0, 10, 17, 15), (0, 10, 21, 17)] :: fz_WA) { frames := 36, cells := 1, slots := 6, locals := 480 } (va_Pc [.ref (q 31), .int p0, .int p1, .ref o] (fz_PC A D (fz_tys k) (fz_WC k q f pa v ++ [(o, .inl (k 5, 1, .inr (.inl g)))]))) (fz_QI D A (fun (u : (Nat → Int64)) => [(o, .inl (k 5, 1, .inr (.inl u)))]) (fun (r : Int32) (u : (Nat → Int64)) => (r = 1 ∧ True))) (fz_XC (fun _ => False) A) 1 6 A := by
  refine fz_ofH (by decide +kernel) (Nat.le_of_ble_eq_true rfl) ?_
  intro p e s m below meth c hx hb hr hml hown hlocks hts htab hA hP hK hD hG hS ls hl
  have hown : s.vm.findClass RL = some m.cls := hown
  have S0 : CallFix p m c cL_merge 5 s [.ref (q 31), .int p0, .int p1, .ref o].toArray (Cond.codeWith yL_merge cL_merge 5 (some .int) [(0, 10, 13, 13), (0, 10, 17, 15), (0, 10, 21, 17)] :: fz_WA) RL := ⟨hx, hb, hml, hown, hts⟩
  have hl : lv_has ls 5 [(0, .ref (q 31)), (1, .int p0), (2, .int p1), (3, .ref o)] := hl
  refine lv_aload_n hx hb dL_merge_0 rfl (lv_at hl 3 rfl) ?_
  refine lv_iconst (v := 0) hx hb dL_merge_1 (by decide) ?_
  refine lv_aload_n hx hb dL_merge_2 rfl (lv_at hl 0 rfl) ?_
  refine lv_iload_n hx hb dL_merge_3 rfl (lv_at hl 1 rfl) ?_
  refine lv_iload_n hx hb dL_merge_4 rfl (lv_at hl 2 rfl) ?_
  have hPc : va_P D vwCl (fz_WC k q f pa v) s.heap := fz_left hP
  have hDc : va_D (va_A (fz_WC k q f pa v) s.heap.size) (fz_WC k q f pa v) := (fz_leftD hD).self
  have hFc := va_free (wc := (fz_WC k q f pa v)) hD hS hA [0, 1, 2, 3, 4, 5, 6, 7, 8, 9, 10, 11, 12, 13, 14, 15, 16, 17, 18, 19, 20, 21, 22, 23, 24, 25, 26, 27, 28, 29, 30, 31, 32, 33, 34, 35, 36, 37] rfl
  refine fz_hVi (As := [.int p0, .int p1]) (rest := [.int 0, .ref o]) S0 (c_merge l hl0 (va_A (fz_WC k q f pa v) s.heap.size) D k q f pa v p0 p1 g_v_3) (fz_cwV (C := RX9) 2 hts fm_725 fm_726 fm_727 fm_728 fm_6 rfl rfl ⟨by decide, by decide, by decide +kernel⟩ ⟨Nat.le_of_ble_eq_true rfl, Nat.le_of_ble_eq_true rfl⟩) (va_recv hK hP (ci := 13) (q0 := 31) rfl rfl) hFc (fun a9 h9 => Or.inr h9) hG hS hPc hK hDc rfl hl.1 rfl (Nat.le_of_ble_eq_true rfl) dL_merge_5 ⟨Nat.le_of_ble_eq_true rfl, Nat.le_of_ble_eq_true rfl⟩ (fun E9 ce q9 H locs hE hz1 hk1 hS h1 h2 h3 => ?_) (fun r u H locs hw hz1 hk1 hP1 hS => ?_)
  · obtain ⟨hPo, hDo⟩ := va_join (wr := [(o, .inl (k 5, 1, .inr (.inl g)))]) (w1 := []) hP hD [0, 1, 2, 3, 4, 5, 6, 7, 8, 9, 10, 11, 12, 13, 14, 15, 16, 17, 18, 19, 20, 21, 22, 23, 24, 25, 26, 27, 28, 29, 30, 31, 32, 33, 34, 35, 36, 37] [38] rfl rfl (by decide) (by decide) hk1 hFc fz_nil fz_nilD
    have hPo : va_P D vwCl [(o, .inl (k 5, 1, .inr (.inl g)))] H := hPo
    rcases hE with ⟨rfl, hc9⟩
    · refine vx_catch (own := RL) (name := "java/lang/IndexOutOfBoundsException") hown [] ⟨0, 10, 13, 13⟩ [⟨0, 10, 17, 15⟩, ⟨0, 10, 21, 17⟩] (htab.trans rfl) (fun z hz => by cases hz) (by decide) (by decide) (hts _ (fz_m fm_654)) (fz_cast hG fm_653) h1 h2 h3 ?_
      refine lv_astore (lv' := [(4, .ref q9), (0, .ref (q 31)), (1, .int p0), (2, .int p1), (3, .ref o)]) hx hb dL_merge_13 hl (by decide) rfl (fun ls hl => ?_)
      refine lv_iconst (v := 1) hx hb dL_merge_15 (by decide) ?_
      exact vx_ret (fz_iret hx hb hr rfl hlocks hS dL_merge_16 g ⟨rfl, trivial⟩ hPo (Nat.le_of_ble_eq_true rfl) (Nat.le_of_ble_eq_true rfl))
  · obtain ⟨hPo, hDo⟩ := va_join (wr := [(o, .inl (k 5, 1, .inr (.inl g)))]) (w1 := []) hP hD [0, 1, 2, 3, 4, 5, 6, 7, 8, 9, 10, 11, 12, 13, 14, 15, 16, 17, 18, 19, 20, 21, 22, 23, 24, 25, 26, 27, 28, 29, 30, 31, 32, 33, 34, 35, 36, 37] [38] rfl rfl (by decide) (by decide) hk1 hFc hP1 fz_nilD
    have hPo : va_P D vwCl [(o, .inl (k 5, 1, .inr (.inl g)))] H := hPo
    have hDo : va_D A [(o, .inl (k 5, 1, .inr (.inl g)))] := hDo
    exact (show False from hw).elim

set_option maxHeartbeats 4000000 in
set_option maxRecDepth 100000 in
theorem h_container (l : Launch) (hl0 : l.stackTraces = false) (A : Nat → Prop) (D : va_G) (k : Nat → ClassId) (q : Nat → Nat) (f : Nat → Nat → Int32) (pa : Nat → Option Nat) (v : Nat → Int32) (o : Nat) (g : (Nat → Int64)) (p0 p1 : Int32) (g_v_3 : v 3 = 0) :
    vx_Met l yL_container (Cond.codeWith yL_container cL_container 5 (some .int) [(0, 10, 13, 13), (0, 10, 17, 15)] :: fz_WA) { frames := 36, cells := 1, slots := 6, locals := 480 } (va_Pc [.ref (q 31), .int p0, .int p1, .ref o] (fz_PC A D (fz_tys k) (fz_WC k q f pa v ++ [(o, .inl (k 5, 1, .inr (.inl g)))]))) (fz_QI D A (fun (u : (Nat → Int64)) => [(o, .inl (k 5, 1, .inr (.inl u)))]) (fun (r : Int32) (u : (Nat → Int64)) => (r = 1 ∧ True))) (fz_XC (fun _ => False) A) 1 6 A := by
  refine fz_ofH (by decide +kernel) (Nat.le_of_ble_eq_true rfl) ?_
  intro p e s m below meth c hx hb hr hml hown hlocks hts htab hA hP hK hD hG hS ls hl
  have hown : s.vm.findClass RL = some m.cls := hown
  have S0 : CallFix p m c cL_container 5 s [.ref (q 31), .int p0, .int p1, .ref o].toArray (Cond.codeWith yL_container cL_container 5 (some .int) [(0, 10, 13, 13), (0, 10, 17, 15)] :: fz_WA) RL := ⟨hx, hb, hml, hown, hts⟩
  have hl : lv_has ls 5 [(0, .ref (q 31)), (1, .int p0), (2, .int p1), (3, .ref o)] := hl
  refine lv_aload_n hx hb dL_container_0 rfl (lv_at hl 3 rfl) ?_
  refine lv_iconst (v := 0) hx hb dL_container_1 (by decide) ?_
  refine lv_aload_n hx hb dL_container_2 rfl (lv_at hl 0 rfl) ?_
  refine lv_iload_n hx hb dL_container_3 rfl (lv_at hl 1 rfl) ?_
  refine lv_iload_n hx hb dL_container_4 rfl (lv_at hl 2 rfl) ?_
  have hPc : va_P D vwCl (fz_WC k q f pa v) s.heap := fz_left hP
  have hDc : va_D (va_A (fz_WC k q f pa v) s.heap.size) (fz_WC k q f pa v) := (fz_leftD hD).self
  have hFc := va_free (wc := (fz_WC k q f pa v)) hD hS hA [0, 1, 2, 3, 4, 5, 6, 7, 8, 9, 10, 11, 12, 13, 14, 15, 16, 17, 18, 19, 20, 21, 22, 23, 24, 25, 26, 27, 28, 29, 30, 31, 32, 33, 34, 35, 36, 37] rfl
  refine fz_hVi (As := [.int p0, .int p1]) (rest := [.int 0, .ref o]) S0 (c_container l hl0 (va_A (fz_WC k q f pa v) s.heap.size) D k q f pa v p0 p1 g_v_3) (fz_cwV (C := RX9) 2 hts fm_730 fm_731 fm_732 fm_733 fm_6 rfl rfl ⟨by decide, by decide, by decide +kernel⟩ ⟨Nat.le_of_ble_eq_true rfl, Nat.le_of_ble_eq_true rfl⟩) (va_recv hK hP (ci := 13) (q0 := 31) rfl rfl) hFc (fun a9 h9 => Or.inr h9) hG hS hPc hK hDc rfl hl.1 rfl (Nat.le_of_ble_eq_true rfl) dL_container_5 ⟨Nat.le_of_ble_eq_true rfl, Nat.le_of_ble_eq_true rfl⟩ (fun E9 ce q9 H locs hE hz1 hk1 hS h1 h2 h3 => ?_) (fun r u H locs hw hz1 hk1 hP1 hS => ?_)
  · obtain ⟨hPo, hDo⟩ := va_join (wr := [(o, .inl (k 5, 1, .inr (.inl g)))]) (w1 := []) hP hD [0, 1, 2, 3, 4, 5, 6, 7, 8, 9, 10, 11, 12, 13, 14, 15, 16, 17, 18, 19, 20, 21, 22, 23, 24, 25, 26, 27, 28, 29, 30, 31, 32, 33, 34, 35, 36, 37] [38] rfl rfl (by decide) (by decide) hk1 hFc fz_nil fz_nilD
    have hPo : va_P D vwCl [(o, .inl (k 5, 1, .inr (.inl g)))] H := hPo
    rcases hE with ⟨rfl, hc9⟩
    · refine vx_catch (own := RL) (name := "java/lang/IndexOutOfBoundsException") hown [] ⟨0, 10, 13, 13⟩ [⟨0, 10, 17, 15⟩] (htab.trans rfl) (fun z hz => by cases hz) (by decide) (by decide) (hts _ (fz_m fm_654)) (fz_cast hG fm_653) h1 h2 h3 ?_
      refine lv_astore (lv' := [(4, .ref q9), (0, .ref (q 31)), (1, .int p0), (2, .int p1), (3, .ref o)]) hx hb dL_container_13 hl (by decide) rfl (fun ls hl => ?_)
      refine lv_iconst (v := 1) hx hb dL_container_15 (by decide) ?_
      exact vx_ret (fz_iret hx hb hr rfl hlocks hS dL_container_16 g ⟨rfl, trivial⟩ hPo (Nat.le_of_ble_eq_true rfl) (Nat.le_of_ble_eq_true rfl))
  · obtain ⟨hPo, hDo⟩ := va_join (wr := [(o, .inl (k 5, 1, .inr (.inl g)))]) (w1 := []) hP hD [0, 1, 2, 3, 4, 5, 6, 7, 8, 9, 10, 11, 12, 13, 14, 15, 16, 17, 18, 19, 20, 21, 22, 23, 24, 25, 26, 27, 28, 29, 30, 31, 32, 33, 34, 35, 36, 37] [38] rfl rfl (by decide) (by decide) hk1 hFc hP1 fz_nilD
    have hPo : va_P D vwCl [(o, .inl (k 5, 1, .inr (.inl g)))] H := hPo
    have hDo : va_D A [(o, .inl (k 5, 1, .inr (.inl g)))] := hDo
    exact (show False from hw).elim

set_option maxHeartbeats 4000000 in
set_option maxRecDepth 100000 in
theorem h_unitAt (l : Launch) (hl0 : l.stackTraces = false) (A : Nat → Prop) (D : va_G) (k : Nat → ClassId) (q : Nat → Nat) (f : Nat → Nat → Int32) (pa : Nat → Option Nat) (v : Nat → Int32) (o : Nat) (g : (Nat → Int64)) (p0 p1 : Int32) (g_v_3 : v 3 = 0) :
    vx_Met l yL_unitAt (Cond.codeWith yL_unitAt cL_unitAt 5 (some .int) [(0, 10, 13, 13)] :: fz_WA) { frames := 36, cells := 1, slots := 6, locals := 480 } (va_Pc [.ref (q 31), .int p0, .int p1, .ref o] (fz_PC A D (fz_tys k) (fz_WC k q f pa v ++ [(o, .inl (k 5, 1, .inr (.inl g)))]))) (fz_QI D A (fun (u : (Nat → Int64)) => [(o, .inl (k 5, 1, .inr (.inl u)))]) (fun (r : Int32) (u : (Nat → Int64)) => (r = 1 ∧ True))) (fz_XC (fun _ => False) A) 1 6 A := by
  refine fz_ofH (by decide +kernel) (Nat.le_of_ble_eq_true rfl) ?_
  intro p e s m below meth c hx hb hr hml hown hlocks hts htab hA hP hK hD hG hS ls hl
  have hown : s.vm.findClass RL = some m.cls := hown
  have S0 : CallFix p m c cL_unitAt 5 s [.ref (q 31), .int p0, .int p1, .ref o].toArray (Cond.codeWith yL_unitAt cL_unitAt 5 (some .int) [(0, 10, 13, 13)] :: fz_WA) RL := ⟨hx, hb, hml, hown, hts⟩
  have hl : lv_has ls 5 [(0, .ref (q 31)), (1, .int p0), (2, .int p1), (3, .ref o)] := hl
  refine lv_aload_n hx hb dL_unitAt_0 rfl (lv_at hl 3 rfl) ?_
  refine lv_iconst (v := 0) hx hb dL_unitAt_1 (by decide) ?_
  refine lv_aload_n hx hb dL_unitAt_2 rfl (lv_at hl 0 rfl) ?_
  refine lv_iload_n hx hb dL_unitAt_3 rfl (lv_at hl 1 rfl) ?_
  refine lv_iload_n hx hb dL_unitAt_4 rfl (lv_at hl 2 rfl) ?_
  have hPc : va_P D vwCl (fz_WC k q f pa v) s.heap := fz_left hP
  have hDc : va_D (va_A (fz_WC k q f pa v) s.heap.size) (fz_WC k q f pa v) := (fz_leftD hD).self
  have hFc := va_free (wc := (fz_WC k q f pa v)) hD hS hA [0, 1, 2, 3, 4, 5, 6, 7, 8, 9, 10, 11, 12, 13, 14, 15, 16, 17, 18, 19, 20, 21, 22, 23, 24, 25, 26, 27, 28, 29, 30, 31, 32, 33, 34, 35, 36, 37] rfl
  refine fz_hVi (As := [.int p0, .int p1]) (rest := [.int 0, .ref o]) S0 (c_unitAt l hl0 (va_A (fz_WC k q f pa v) s.heap.size) D k q f pa v p0 p1 g_v_3) (fz_cwV (C := RX9) 2 hts fm_735 fm_736 fm_737 fm_738 fm_6 rfl rfl ⟨by decide, by decide, by decide +kernel⟩ ⟨Nat.le_of_ble_eq_true rfl, Nat.le_of_ble_eq_true rfl⟩) (va_recv hK hP (ci := 13) (q0 := 31) rfl rfl) hFc (fun a9 h9 => Or.inr h9) hG hS hPc hK hDc rfl hl.1 rfl (Nat.le_of_ble_eq_true rfl) dL_unitAt_5 ⟨Nat.le_of_ble_eq_true rfl, Nat.le_of_ble_eq_true rfl⟩ (fun E9 ce q9 H locs hE hz1 hk1 hS h1 h2 h3 => ?_) (fun r u H locs hw hz1 hk1 hP1 hS => ?_)
  · obtain ⟨hPo, hDo⟩ := va_join (wr := [(o, .inl (k 5, 1, .inr (.inl g)))]) (w1 := []) hP hD [0, 1, 2, 3, 4, 5, 6, 7, 8, 9, 10, 11, 12, 13, 14, 15, 16, 17, 18, 19, 20, 21, 22, 23, 24, 25, 26, 27, 28, 29, 30, 31, 32, 33, 34, 35, 36, 37] [38] rfl rfl (by decide) (by decide) hk1 hFc fz_nil fz_nilD
    have hPo : va_P D vwCl [(o, .inl (k 5, 1, .inr (.inl g)))] H := hPo
    rcases hE with ⟨rfl, hc9⟩
    · refine vx_catch (own := RL) (name := "java/lang/IndexOutOfBoundsException") hown [] ⟨0, 10, 13, 13⟩ [] (htab.trans rfl) (fun z hz => by cases hz) (by decide) (by decide) (hts _ (fz_m fm_654)) (fz_cast hG fm_653) h1 h2 h3 ?_
      refine lv_astore (lv' := [(4, .ref q9), (0, .ref (q 31)), (1, .int p0), (2, .int p1), (3, .ref o)]) hx hb dL_unitAt_13 hl (by decide) rfl (fun ls hl => ?_)
      refine lv_iconst (v := 1) hx hb dL_unitAt_15 (by decide) ?_
      exact vx_ret (fz_iret hx hb hr rfl hlocks hS dL_unitAt_16 g ⟨rfl, trivial⟩ hPo (Nat.le_of_ble_eq_true rfl) (Nat.le_of_ble_eq_true rfl))
  · obtain ⟨hPo, hDo⟩ := va_join (wr := [(o, .inl (k 5, 1, .inr (.inl g)))]) (w1 := []) hP hD [0, 1, 2, 3, 4, 5, 6, 7, 8, 9, 10, 11, 12, 13, 14, 15, 16, 17, 18, 19, 20, 21, 22, 23, 24, 25, 26, 27, 28, 29, 30, 31, 32, 33, 34, 35, 36, 37] [38] rfl rfl (by decide) (by decide) hk1 hFc hP1 fz_nilD
    have hPo : va_P D vwCl [(o, .inl (k 5, 1, .inr (.inl g)))] H := hPo
    have hDo : va_D A [(o, .inl (k 5, 1, .inr (.inl g)))] := hDo
    exact (show False from hw).elim

set_option maxHeartbeats 4000000 in
set_option maxRecDepth 100000 in
theorem h_copy (l : Launch) (hl0 : l.stackTraces = false) (A : Nat → Prop) (D : va_G) (k : Nat → ClassId) (q : Nat → Nat) (f : Nat → Nat → Int32) (pa : Nat → Option Nat) (v : Nat → Int32) (o : Nat) (g : (Nat → Int64)) (p0 p1 : Int32) (g_v_1 : v 1 = 1) (g_f_4_0 : f 4 0 = 0) (g_f_7_0 : f 7 0 = 0) :
    vx_Met l yL_copy (Cond.codeWith yL_copy cL_copy 5 (some .int) [(0, 10, 13, 13), (0, 10, 17, 15), (0, 10, 21, 17)] :: fz_WA) { frames := 36, cells := 2, slots := 12, locals := 480 } (va_Pc [.ref (q 31), .int p0, .int p1, .ref o] (fz_PC A D (fz_tys k) (fz_WC k q f pa v ++ [(o, .inl (k 5, 1, .inr (.inl g)))]))) (fz_QI D A (fun (u : (Nat → Int64)) => [(o, .inl (k 5, 1, .inr (.inl u)))]) (fun (r : Int32) (u : (Nat → Int64)) => (r = 1 ∧ ¬ (p0 = 0)) ∨ (r = 2 ∧ p0 = 0))) (fz_XC (fun _ => False) A) 2 12 A := by
  refine fz_ofH (by decide +kernel) (Nat.le_of_ble_eq_true rfl) ?_
  intro p e s m below meth c hx hb hr hml hown hlocks hts htab hA hP hK hD hG hS ls hl
  have hown : s.vm.findClass RL = some m.cls := hown
  have S0 : CallFix p m c cL_copy 5 s [.ref (q 31), .int p0, .int p1, .ref o].toArray (Cond.codeWith yL_copy cL_copy 5 (some .int) [(0, 10, 13, 13), (0, 10, 17, 15), (0, 10, 21, 17)] :: fz_WA) RL := ⟨hx, hb, hml, hown, hts⟩
  have hl : lv_has ls 5 [(0, .ref (q 31)), (1, .int p0), (2, .int p1), (3, .ref o)] := hl
  refine lv_aload_n hx hb dL_copy_0 rfl (lv_at hl 3 rfl) ?_
  refine lv_iconst (v := 0) hx hb dL_copy_1 (by decide) ?_
  refine lv_aload_n hx hb dL_copy_2 rfl (lv_at hl 0 rfl) ?_
  refine lv_iload_n hx hb dL_copy_3 rfl (lv_at hl 1 rfl) ?_
  refine lv_iload_n hx hb dL_copy_4 rfl (lv_at hl 2 rfl) ?_
  have hPc : va_P D vwCl (fz_WC k q f pa v) s.heap := fz_left hP
  have hDc : va_D (va_A (fz_WC k q f pa v) s.heap.size) (fz_WC k q f pa v) := (fz_leftD hD).self
  have hFc := va_free (wc := (fz_WC k q f pa v)) hD hS hA [0, 1, 2, 3, 4, 5, 6, 7, 8, 9, 10, 11, 12, 13, 14, 15, 16, 17, 18, 19, 20, 21, 22, 23, 24, 25, 26, 27, 28, 29, 30, 31, 32, 33, 34, 35, 36, 37] rfl
  refine fz_hVi (As := [.int p0, .int p1]) (rest := [.int 0, .ref o]) S0 (c_copy l hl0 (va_A (fz_WC k q f pa v) s.heap.size) D k q f pa v p0 p1 g_v_1 g_f_4_0 g_f_7_0) (fz_cwV (C := RX9) 2 hts fm_740 fm_741 fm_742 fm_743 fm_6 rfl rfl ⟨by decide, by decide, by decide +kernel⟩ ⟨Nat.le_of_ble_eq_true rfl, Nat.le_of_ble_eq_true rfl⟩) (va_recv hK hP (ci := 13) (q0 := 31) rfl rfl) hFc (fun a9 h9 => Or.inr h9) hG hS hPc hK hDc rfl hl.1 rfl (Nat.le_of_ble_eq_true rfl) dL_copy_5 ⟨Nat.le_of_ble_eq_true rfl, Nat.le_of_ble_eq_true rfl⟩ (fun E9 ce q9 H locs hE hz1 hk1 hS h1 h2 h3 => ?_) (fun r u H locs hw hz1 hk1 hP1 hS => ?_)
  · obtain ⟨hPo, hDo⟩ := va_join (wr := [(o, .inl (k 5, 1, .inr (.inl g)))]) (w1 := []) hP hD [0, 1, 2, 3, 4, 5, 6, 7, 8, 9, 10, 11, 12, 13, 14, 15, 16, 17, 18, 19, 20, 21, 22, 23, 24, 25, 26, 27, 28, 29, 30, 31, 32, 33, 34, 35, 36, 37] [38] rfl rfl (by decide) (by decide) hk1 hFc fz_nil fz_nilD
    have hPo : va_P D vwCl [(o, .inl (k 5, 1, .inr (.inl g)))] H := hPo
    rcases hE with ⟨rfl, hc9⟩ | ⟨rfl, hc9⟩
    · refine vx_catch (own := RL) (name := "java/lang/IndexOutOfBoundsException") hown [] ⟨0, 10, 13, 13⟩ [⟨0, 10, 17, 15⟩, ⟨0, 10, 21, 17⟩] (htab.trans rfl) (fun z hz => by cases hz) (by decide) (by decide) (hts _ (fz_m fm_654)) (fz_cast hG fm_653) h1 h2 h3 ?_
      refine lv_astore (lv' := [(4, .ref q9), (0, .ref (q 31)), (1, .int p0), (2, .int p1), (3, .ref o)]) hx hb dL_copy_13 hl (by decide) rfl (fun ls hl => ?_)
      refine lv_iconst (v := 1) hx hb dL_copy_15 (by decide) ?_
      exact vx_ret (fz_iret hx hb hr rfl hlocks hS dL_copy_16 g (Or.inl ⟨rfl, hc9⟩) hPo (Nat.le_of_ble_eq_true rfl) (Nat.le_of_ble_eq_true rfl))
    · refine vx_catch (own := RL) (name := "java/lang/IllegalArgumentException") hown [⟨0, 10, 13, 13⟩] ⟨0, 10, 17, 15⟩ [⟨0, 10, 21, 17⟩] (htab.trans rfl) (List.forall_mem_cons.mpr ⟨Or.inr ⟨by decide, "java/lang/IndexOutOfBoundsException", hts _ (fz_m fm_654), hG.2.2.2.2.2.1 ("java/lang/IllegalArgumentException", "java/lang/IndexOutOfBoundsException") (by decide)⟩, (fun z hz => by cases hz)⟩) (by decide) (by decide) (hts _ (fz_m fm_656)) (fz_cast hG fm_655) h1 h2 h3 ?_
      refine lv_astore (lv' := [(4, .ref q9), (0, .ref (q 31)), (1, .int p0), (2, .int p1), (3, .ref o)]) hx hb dL_copy_17 hl (by decide) rfl (fun ls hl => ?_)
      refine lv_iconst (v := 2) hx hb dL_copy_19 (by decide) ?_
      exact vx_ret (fz_iret hx hb hr rfl hlocks hS dL_copy_20 g (Or.inr ⟨rfl, hc9⟩) hPo (Nat.le_of_ble_eq_true rfl) (Nat.le_of_ble_eq_true rfl))
  · obtain ⟨hPo, hDo⟩ := va_join (wr := [(o, .inl (k 5, 1, .inr (.inl g)))]) (w1 := []) hP hD [0, 1, 2, 3, 4, 5, 6, 7, 8, 9, 10, 11, 12, 13, 14, 15, 16, 17, 18, 19, 20, 21, 22, 23, 24, 25, 26, 27, 28, 29, 30, 31, 32, 33, 34, 35, 36, 37] [38] rfl rfl (by decide) (by decide) hk1 hFc hP1 fz_nilD
    have hPo : va_P D vwCl [(o, .inl (k 5, 1, .inr (.inl g)))] H := hPo
    have hDo : va_D A [(o, .inl (k 5, 1, .inr (.inl g)))] := hDo
    exact (show False from hw).elim

set_option maxHeartbeats 4000000 in
set_option maxRecDepth 100000 in
theorem h_copyPart (l : Launch) (hl0 : l.stackTraces = false) (A : Nat → Prop) (D : va_G) (k : Nat → ClassId) (q : Nat → Nat) (f : Nat → Nat → Int32) (pa : Nat → Option Nat) (v : Nat → Int32) (o : Nat) (g : (Nat → Int64)) (p0 p1 : Int32) (g_v_7 : v 7 = 0) :
    vx_Met l yL_copyPart (Cond.codeWith yL_copyPart cL_copyPart 5 (some .int) [(0, 10, 13, 13), (0, 10, 17, 15)] :: fz_WA) { frames := 36, cells := 1, slots := 6, locals := 480 } (va_Pc [.ref (q 31), .int p0, .int p1, .ref o] (fz_PC A D (fz_tys k) (fz_WC k q f pa v ++ [(o, .inl (k 5, 1, .inr (.inl g)))]))) (fz_QI D A (fun (u : (Nat → Int64)) => [(o, .inl (k 5, 1, .inr (.inl u)))]) (fun (r : Int32) (u : (Nat → Int64)) => (r = 1 ∧ True))) (fz_XC (fun _ => False) A) 1 6 A := by
  refine fz_ofH (by decide +kernel) (Nat.le_of_ble_eq_true rfl) ?_
  intro p e s m below meth c hx hb hr hml hown hlocks hts htab hA hP hK hD hG hS ls hl
  have hown : s.vm.findClass RL = some m.cls := hown
  have S0 : CallFix p m c cL_copyPart 5 s [.ref (q 31), .int p0, .int p1, .ref o].toArray (Cond.codeWith yL_copyPart cL_copyPart 5 (some .int) [(0, 10, 13, 13), (0, 10, 17, 15)] :: fz_WA) RL := ⟨hx, hb, hml, hown, hts⟩
  have hl : lv_has ls 5 [(0, .ref (q 31)), (1, .int p0), (2, .int p1), (3, .ref o)] := hl
  refine lv_aload_n hx hb dL_copyPart_0 rfl (lv_at hl 3 rfl) ?_
  refine lv_iconst (v := 0) hx hb dL_copyPart_1 (by decide) ?_
  refine lv_aload_n hx hb dL_copyPart_2 rfl (lv_at hl 0 rfl) ?_
  refine lv_iload_n hx hb dL_copyPart_3 rfl (lv_at hl 1 rfl) ?_
  refine lv_iload_n hx hb dL_copyPart_4 rfl (lv_at hl 2 rfl) ?_
  have hPc : va_P D vwCl (fz_WC k q f pa v) s.heap := fz_left hP
  have hDc : va_D (va_A (fz_WC k q f pa v) s.heap.size) (fz_WC k q f pa v) := (fz_leftD hD).self
  have hFc := va_free (wc := (fz_WC k q f pa v)) hD hS hA [0, 1, 2, 3, 4, 5, 6, 7, 8, 9, 10, 11, 12, 13, 14, 15, 16, 17, 18, 19, 20, 21, 22, 23, 24, 25, 26, 27, 28, 29, 30, 31, 32, 33, 34, 35, 36, 37] rfl
  refine fz_hVi (As := [.int p0, .int p1]) (rest := [.int 0, .ref o]) S0 (c_copyPart l hl0 (va_A (fz_WC k q f pa v) s.heap.size) D k q f pa v p0 p1 g_v_7) (fz_cwV (C := RX9) 2 hts fm_745 fm_746 fm_747 fm_748 fm_6 rfl rfl ⟨by decide, by decide, by decide +kernel⟩ ⟨Nat.le_of_ble_eq_true rfl, Nat.le_of_ble_eq_true rfl⟩) (va_recv hK hP (ci := 13) (q0 := 31) rfl rfl) hFc (fun a9 h9 => Or.inr h9) hG hS hPc hK hDc rfl hl.1 rfl (Nat.le_of_ble_eq_true rfl) dL_copyPart_5 ⟨Nat.le_of_ble_eq_true rfl, Nat.le_of_ble_eq_true rfl⟩ (fun E9 ce q9 H locs hE hz1 hk1 hS h1 h2 h3 => ?_) (fun r u H locs hw hz1 hk1 hP1 hS => ?_)
  · obtain ⟨hPo, hDo⟩ := va_join (wr := [(o, .inl (k 5, 1, .inr (.inl g)))]) (w1 := []) hP hD [0, 1, 2, 3, 4, 5, 6, 7, 8, 9, 10, 11, 12, 13, 14, 15, 16, 17, 18, 19, 20, 21, 22, 23, 24, 25, 26, 27, 28, 29, 30, 31, 32, 33, 34, 35, 36, 37] [38] rfl rfl (by decide) (by decide) hk1 hFc fz_nil fz_nilD
    have hPo : va_P D vwCl [(o, .inl (k 5, 1, .inr (.inl g)))] H := hPo
    rcases hE with ⟨rfl, hc9⟩
    · refine vx_catch (own := RL) (name := "java/lang/IndexOutOfBoundsException") hown [] ⟨0, 10, 13, 13⟩ [⟨0, 10, 17, 15⟩] (htab.trans rfl) (fun z hz => by cases hz) (by decide) (by decide) (hts _ (fz_m fm_654)) (fz_cast hG fm_653) h1 h2 h3 ?_
      refine lv_astore (lv' := [(4, .ref q9), (0, .ref (q 31)), (1, .int p0), (2, .int p1), (3, .ref o)]) hx hb dL_copyPart_13 hl (by decide) rfl (fun ls hl => ?_)
      refine lv_iconst (v := 1) hx hb dL_copyPart_15 (by decide) ?_
      exact vx_ret (fz_iret hx hb hr rfl hlocks hS dL_copyPart_16 g ⟨rfl, trivial⟩ hPo (Nat.le_of_ble_eq_true rfl) (Nat.le_of_ble_eq_true rfl))
  · obtain ⟨hPo, hDo⟩ := va_join (wr := [(o, .inl (k 5, 1, .inr (.inl g)))]) (w1 := []) hP hD [0, 1, 2, 3, 4, 5, 6, 7, 8, 9, 10, 11, 12, 13, 14, 15, 16, 17, 18, 19, 20, 21, 22, 23, 24, 25, 26, 27, 28, 29, 30, 31, 32, 33, 34, 35, 36, 37] [38] rfl rfl (by decide) (by decide) hk1 hFc hP1 fz_nilD
    have hPo : va_P D vwCl [(o, .inl (k 5, 1, .inr (.inl g)))] H := hPo
    have hDo : va_D A [(o, .inl (k 5, 1, .inr (.inl g)))] := hDo
    exact (show False from hw).elim

set_option maxHeartbeats 4000000 in
set_option maxRecDepth 100000 in
theorem h_setSeats (l : Launch) (hl0 : l.stackTraces = false) (A : Nat → Prop) (D : va_G) (k : Nat → ClassId) (q : Nat → Nat) (f : Nat → Nat → Int32) (pa : Nat → Option Nat) (v : Nat → Int32) (o : Nat) (g : (Nat → Int64)) (p0 : Int32) (g_v_9 : v 9 = 0) (g_v_1 : v 1 = 1) (g_v_2 : v 2 = 1) (g_v_3 : v 3 = 0) (g_v_4 : v 4 = 0) (g_v_5 : v 5 = 0) (g_v_6 : v 6 = 0) (g_v_7 : v 7 = 0) (g_v_8 : v 8 = 0) (g_v_0 : v 0 = 3) (g_v_10 : v 10 = 0) (g_pa_1 : pa 1 = none) :
    vx_Met l yL_setSeats (Cond.codeWith yL_setSeats cL_setSeats 4 (some .int) [(0, 9, 12, 15)] :: fz_WA) { frames := 72, cells := 31, slots := 1699, locals := 960 } (va_Pc [.ref (q 31), .int p0, .ref o] (fz_PC A D (fz_tys k) (fz_WC k q f pa v ++ [(o, .inl (k 5, 1, .inr (.inl g)))]))) (fz_QI D A (fun (u : (Nat → Int64)) => [(o, .inl (k 5, 1, .inr (.inl u)))]) (fun (r : Int32) (u : (Nat → Int64)) => (r = 0 ∧ u 0 = (3 : Int32).toInt64 ∧ (1 ≤ p0 ∧ p0 ≤ 6)) ∨ (r = 1 ∧ ¬ ((1 ≤ p0 ∧ p0 ≤ 6))))) (fz_XC (fun _ => False) A) 31 1699 A := by
  refine fz_ofH (by decide +kernel) (Nat.le_of_ble_eq_true rfl) ?_
  intro p e s m below meth c hx hb hr hml hown hlocks hts htab hA hP hK hD hG hS ls hl
  have hown : s.vm.findClass RL = some m.cls := hown
  have S0 : CallFix p m c cL_setSeats 4 s [.ref (q 31), .int p0, .ref o].toArray (Cond.codeWith yL_setSeats cL_setSeats 4 (some .int) [(0, 9, 12, 15)] :: fz_WA) RL := ⟨hx, hb, hml, hown, hts⟩
  have hl : lv_has ls 4 [(0, .ref (q 31)), (1, .int p0), (2, .ref o)] := hl
  refine lv_aload_n hx hb dL_setSeats_0 rfl (lv_at hl 2 rfl) ?_
  refine lv_iconst (v := 0) hx hb dL_setSeats_1 (by decide) ?_
  refine lv_aload_n hx hb dL_setSeats_2 rfl (lv_at hl 0 rfl) ?_
  refine lv_iload_n hx hb dL_setSeats_3 rfl (lv_at hl 1 rfl) ?_
  have hPc : va_P D vwCl (fz_WC k q f pa v) s.heap := fz_left hP
  have hDc : va_D (va_A (fz_WC k q f pa v) s.heap.size) (fz_WC k q f pa v) := (fz_leftD hD).self
  have hFc := va_free (wc := (fz_WC k q f pa v)) hD hS hA [0, 1, 2, 3, 4, 5, 6, 7, 8, 9, 10, 11, 12, 13, 14, 15, 16, 17, 18, 19, 20, 21, 22, 23, 24, 25, 26, 27, 28, 29, 30, 31, 32, 33, 34, 35, 36, 37] rfl
  refine fz_hVi (As := [.int p0]) (rest := [.int 0, .ref o]) S0 (c_setSeats l hl0 (va_A (fz_WC k q f pa v) s.heap.size) D k q f pa v p0 g_v_9 g_v_1 g_v_2 g_v_3 g_v_4 g_v_5 g_v_6 g_v_7 g_v_8 g_v_0 g_v_10 g_pa_1) (fz_cwV (C := RX9) 1 hts fm_750 fm_751 fm_752 fm_753 fm_6 rfl rfl ⟨by decide, by decide, by decide +kernel⟩ ⟨Nat.le_of_ble_eq_true rfl, Nat.le_of_ble_eq_true rfl⟩) (va_recv hK hP (ci := 13) (q0 := 31) rfl rfl) hFc (fun a9 h9 => Or.inr h9) hG hS hPc hK hDc rfl hl.1 rfl (Nat.le_of_ble_eq_true rfl) dL_setSeats_4 ⟨Nat.le_of_ble_eq_true rfl, Nat.le_of_ble_eq_true rfl⟩ (fun E9 ce q9 H locs hE hz1 hk1 hS h1 h2 h3 => ?_) (fun r u H locs hw hz1 hk1 hP1 hS => ?_)
  · obtain ⟨hPo, hDo⟩ := va_join (wr := [(o, .inl (k 5, 1, .inr (.inl g)))]) (w1 := []) hP hD [0, 1, 2, 3, 4, 5, 6, 7, 8, 9, 10, 11, 12, 13, 14, 15, 16, 17, 18, 19, 20, 21, 22, 23, 24, 25, 26, 27, 28, 29, 30, 31, 32, 33, 34, 35, 36, 37] [38] rfl rfl (by decide) (by decide) hk1 hFc fz_nil fz_nilD
    have hPo : va_P D vwCl [(o, .inl (k 5, 1, .inr (.inl g)))] H := hPo
    rcases hE with ⟨rfl, hc9⟩
    · refine vx_catch (own := RL) (name := "java/lang/IllegalArgumentException") hown [] ⟨0, 9, 12, 15⟩ [] (htab.trans rfl) (fun z hz => by cases hz) (by decide) (by decide) (hts _ (fz_m fm_656)) (fz_cast hG fm_655) h1 h2 h3 ?_
      refine lv_astore_n (lv' := [(3, .ref q9), (0, .ref (q 31)), (1, .int p0), (2, .ref o)]) hx hb dL_setSeats_12 rfl hl (by decide) rfl (fun ls hl => ?_)
      refine lv_iconst (v := 1) hx hb dL_setSeats_13 (by decide) ?_
      exact vx_ret (fz_iret hx hb hr rfl hlocks hS dL_setSeats_14 g (Or.inr ⟨rfl, hc9⟩) hPo (Nat.le_of_ble_eq_true rfl) (Nat.le_of_ble_eq_true rfl))
  · obtain ⟨hPo, hDo⟩ := va_join (wr := [(o, .inl (k 5, 1, .inr (.inl g)))]) (w1 := []) hP hD [0, 1, 2, 3, 4, 5, 6, 7, 8, 9, 10, 11, 12, 13, 14, 15, 16, 17, 18, 19, 20, 21, 22, 23, 24, 25, 26, 27, 28, 29, 30, 31, 32, 33, 34, 35, 36, 37] [38] rfl rfl (by decide) (by decide) hk1 hFc hP1 fz_nilD
    have hPo : va_P D vwCl [(o, .inl (k 5, 1, .inr (.inl g)))] H := hPo
    have hDo : va_D A [(o, .inl (k 5, 1, .inr (.inl g)))] := hDo
    obtain ⟨rfl, hc9⟩ := hw
    refine lv_i2l hx hb dL_setSeats_7 rfl ?_
    refine va_last hx hb hK hPo hDo hS 0 5 rfl rfl (fz_vin (by decide)) dL_setSeats_8 (fun H locs hPo hDo hS => ?_)
    refine lv_goto (tgt := 15) hx hb dL_setSeats_9 (by decide) ?_
    refine lv_iconst (v := 0) hx hb dL_setSeats_15 (by decide) ?_
    exact vx_ret (fz_iret hx hb hr rfl hlocks hS dL_setSeats_16 (vp_updL g (0 : Int32).toNatClampNeg (3 : Int32).toInt64) (Or.inl ⟨rfl, rfl, hc9⟩) hPo (Nat.le_of_ble_eq_true rfl) (Nat.le_of_ble_eq_true rfl))

set_option maxHeartbeats 4000000 in
set_option maxRecDepth 100000 in
theorem h_request (l : Launch) (hl0 : l.stackTraces = false) (A : Nat → Prop) (D : va_G) (k : Nat → ClassId) (q : Nat → Nat) (f : Nat → Nat → Int32) (pa : Nat → Option Nat) (v : Nat → Int32) (o : Nat) (g : (Nat → Int64)) (p0 p1 p2 : Int32) (g_v_1 : v 1 = 1) (g_f_4_0 : f 4 0 = 0) (g_f_7_0 : f 7 0 = 0) :
    vx_Met l yL_request (Cond.codeWith yL_request cL_request 6 (some .int) [(0, 12, 15, 13), (0, 12, 19, 15), (0, 12, 23, 17), (0, 12, 27, 87)] :: fz_WA) { frames := 36, cells := 2, slots := 12, locals := 480 } (va_Pc [.ref (q 31), .int p0, .int p1, .int p2, .ref o] (fz_PC A D (fz_tys k) (fz_WC k q f pa v ++ [(o, .inl (k 5, 1, .inr (.inl g)))]))) (fz_QI D A (fun (u : (Nat → Int64)) => [(o, .inl (k 5, 1, .inr (.inl u)))]) (fun (r : Int32) (u : (Nat → Int64)) => (r = 1 ∧ (¬ ((0 ≤ p0 ∧ p0 ≤ 7)) ∨ ¬ (p1 = 0))) ∨ (r = 2 ∧ ((0 ≤ p0 ∧ p0 ≤ 7) ∧ p1 = 0)))) (fz_XC (fun _ => False) A) 2 12 A := by
  refine fz_ofH (by decide +kernel) (Nat.le_of_ble_eq_true rfl) ?_
  intro p e s m below meth c hx hb hr hml hown hlocks hts htab hA hP hK hD hG hS ls hl
  have hown : s.vm.findClass RL = some m.cls := hown
  have S0 : CallFix p m c cL_request 6 s [.ref (q 31), .int p0, .int p1, .int p2, .ref o].toArray (Cond.codeWith yL_request cL_request 6 (some .int) [(0, 12, 15, 13), (0, 12, 19, 15), (0, 12, 23, 17), (0, 12, 27, 87)] :: fz_WA) RL := ⟨hx, hb, hml, hown, hts⟩
  have hl : lv_has ls 6 [(0, .ref (q 31)), (1, .int p0), (2, .int p1), (3, .int p2), (4, .ref o)] := hl
  refine lv_aload hx hb dL_request_0 (lv_at hl 4 rfl) ?_
  refine lv_iconst (v := 0) hx hb dL_request_2 (by decide) ?_
  refine lv_aload_n hx hb dL_request_3 rfl (lv_at hl 0 rfl) ?_
  refine lv_iload_n hx hb dL_request_4 rfl (lv_at hl 1 rfl) ?_
  refine lv_iload_n hx hb dL_request_5 rfl (lv_at hl 2 rfl) ?_
  refine lv_iload_n hx hb dL_request_6 rfl (lv_at hl 3 rfl) ?_
  have hPc : va_P D vwCl (fz_WC k q f pa v) s.heap := fz_left hP
  have hDc : va_D (va_A (fz_WC k q f pa v) s.heap.size) (fz_WC k q f pa v) := (fz_leftD hD).self
  have hFc := va_free (wc := (fz_WC k q f pa v)) hD hS hA [0, 1, 2, 3, 4, 5, 6, 7, 8, 9, 10, 11, 12, 13, 14, 15, 16, 17, 18, 19, 20, 21, 22, 23, 24, 25, 26, 27, 28, 29, 30, 31, 32, 33, 34, 35, 36, 37] rfl
  refine fz_hVi (As := [.int p0, .int p1, .int p2]) (rest := [.int 0, .ref o]) S0 (c_request l hl0 (va_A (fz_WC k q f pa v) s.heap.size) D k q f pa v p0 p1 p2 g_v_1 g_f_4_0 g_f_7_0) (fz_cwV (C := RX9) 3 hts fm_755 fm_756 fm_757 fm_758 fm_6 rfl rfl ⟨by decide, by decide, by decide +kernel⟩ ⟨Nat.le_of_ble_eq_true rfl, Nat.le_of_ble_eq_true rfl⟩) (va_recv hK hP (ci := 13) (q0 := 31) rfl rfl) hFc (fun a9 h9 => Or.inr h9) hG hS hPc hK hDc rfl hl.1 rfl (Nat.le_of_ble_eq_true rfl) dL_request_7 ⟨Nat.le_of_ble_eq_true rfl, Nat.le_of_ble_eq_true rfl⟩ (fun E9 ce q9 H locs hE hz1 hk1 hS h1 h2 h3 => ?_) (fun r u H locs hw hz1 hk1 hP1 hS => ?_)
  · obtain ⟨hPo, hDo⟩ := va_join (wr := [(o, .inl (k 5, 1, .inr (.inl g)))]) (w1 := []) hP hD [0, 1, 2, 3, 4, 5, 6, 7, 8, 9, 10, 11, 12, 13, 14, 15, 16, 17, 18, 19, 20, 21, 22, 23, 24, 25, 26, 27, 28, 29, 30, 31, 32, 33, 34, 35, 36, 37] [38] rfl rfl (by decide) (by decide) hk1 hFc fz_nil fz_nilD
    have hPo : va_P D vwCl [(o, .inl (k 5, 1, .inr (.inl g)))] H := hPo
    rcases hE with ⟨rfl, hc9⟩ | ⟨rfl, hc9⟩
    · refine vx_catch (own := RL) (name := "java/lang/IndexOutOfBoundsException") hown [] ⟨0, 12, 15, 13⟩ [⟨0, 12, 19, 15⟩, ⟨0, 12, 23, 17⟩, ⟨0, 12, 27, 87⟩] (htab.trans rfl) (fun z hz => by cases hz) (by decide) (by decide) (hts _ (fz_m fm_654)) (fz_cast hG fm_653) h1 h2 h3 ?_
      refine lv_astore (lv' := [(5, .ref q9), (0, .ref (q 31)), (1, .int p0), (2, .int p1), (3, .int p2), (4, .ref o)]) hx hb dL_request_15 hl (by decide) rfl (fun ls hl => ?_)
      refine lv_iconst (v := 1) hx hb dL_request_17 (by decide) ?_
      exact vx_ret (fz_iret hx hb hr rfl hlocks hS dL_request_18 g (Or.inl ⟨rfl, hc9⟩) hPo (Nat.le_of_ble_eq_true rfl) (Nat.le_of_ble_eq_true rfl))
    · refine vx_catch (own := RL) (name := "java/lang/IllegalArgumentException") hown [⟨0, 12, 15, 13⟩] ⟨0, 12, 19, 15⟩ [⟨0, 12, 23, 17⟩, ⟨0, 12, 27, 87⟩] (htab.trans rfl) (List.forall_mem_cons.mpr ⟨Or.inr ⟨by decide, "java/lang/IndexOutOfBoundsException", hts _ (fz_m fm_654), hG.2.2.2.2.2.1 ("java/lang/IllegalArgumentException", "java/lang/IndexOutOfBoundsException") (by decide)⟩, (fun z hz => by cases hz)⟩) (by decide) (by decide) (hts _ (fz_m fm_656)) (fz_cast hG fm_655) h1 h2 h3 ?_
      refine lv_astore (lv' := [(5, .ref q9), (0, .ref (q 31)), (1, .int p0), (2, .int p1), (3, .int p2), (4, .ref o)]) hx hb dL_request_19 hl (by decide) rfl (fun ls hl => ?_)
      refine lv_iconst (v := 2) hx hb dL_request_21 (by decide) ?_
      exact vx_ret (fz_iret hx hb hr rfl hlocks hS dL_request_22 g (Or.inr ⟨rfl, hc9⟩) hPo (Nat.le_of_ble_eq_true rfl) (Nat.le_of_ble_eq_true rfl))
  · obtain ⟨hPo, hDo⟩ := va_join (wr := [(o, .inl (k 5, 1, .inr (.inl g)))]) (w1 := []) hP hD [0, 1, 2, 3, 4, 5, 6, 7, 8, 9, 10, 11, 12, 13, 14, 15, 16, 17, 18, 19, 20, 21, 22, 23, 24, 25, 26, 27, 28, 29, 30, 31, 32, 33, 34, 35, 36, 37] [38] rfl rfl (by decide) (by decide) hk1 hFc hP1 fz_nilD
    have hPo : va_P D vwCl [(o, .inl (k 5, 1, .inr (.inl g)))] H := hPo
    have hDo : va_D A [(o, .inl (k 5, 1, .inr (.inl g)))] := hDo
    exact (show False from hw).elim

set_option maxHeartbeats 4000000 in
set_option maxRecDepth 100000 in
theorem h_requestPart (l : Launch) (hl0 : l.stackTraces = false) (A : Nat → Prop) (D : va_G) (k : Nat → ClassId) (q : Nat → Nat) (f : Nat → Nat → Int32) (pa : Nat → Option Nat) (v : Nat → Int32) (o : Nat) (g : (Nat → Int64)) (p0 p1 : Int32) (g_v_8 : v 8 = 0) :
    vx_Met l yL_requestPart (Cond.codeWith yL_requestPart cL_requestPart 5 (some .int) [(0, 10, 13, 13), (0, 10, 17, 15)] :: fz_WA) { frames := 36, cells := 1, slots := 6, locals := 480 } (va_Pc [.ref (q 31), .int p0, .int p1, .ref o] (fz_PC A D (fz_tys k) (fz_WC k q f pa v ++ [(o, .inl (k 5, 1, .inr (.inl g)))]))) (fz_QI D A (fun (u : (Nat → Int64)) => [(o, .inl (k 5, 1, .inr (.inl u)))]) (fun (r : Int32) (u : (Nat → Int64)) => (r = 1 ∧ True))) (fz_XC (fun _ => False) A) 1 6 A := by
  refine fz_ofH (by decide +kernel) (Nat.le_of_ble_eq_true rfl) ?_
  intro p e s m below meth c hx hb hr hml hown hlocks hts htab hA hP hK hD hG hS ls hl
  have hown : s.vm.findClass RL = some m.cls := hown
  have S0 : CallFix p m c cL_requestPart 5 s [.ref (q 31), .int p0, .int p1, .ref o].toArray (Cond.codeWith yL_requestPart cL_requestPart 5 (some .int) [(0, 10, 13, 13), (0, 10, 17, 15)] :: fz_WA) RL := ⟨hx, hb, hml, hown, hts⟩
  have hl : lv_has ls 5 [(0, .ref (q 31)), (1, .int p0), (2, .int p1), (3, .ref o)] := hl
  refine lv_aload_n hx hb dL_requestPart_0 rfl (lv_at hl 3 rfl) ?_
  refine lv_iconst (v := 0) hx hb dL_requestPart_1 (by decide) ?_
  refine lv_aload_n hx hb dL_requestPart_2 rfl (lv_at hl 0 rfl) ?_
  refine lv_iload_n hx hb dL_requestPart_3 rfl (lv_at hl 1 rfl) ?_
  refine lv_iload_n hx hb dL_requestPart_4 rfl (lv_at hl 2 rfl) ?_
  have hPc : va_P D vwCl (fz_WC k q f pa v) s.heap := fz_left hP
  have hDc : va_D (va_A (fz_WC k q f pa v) s.heap.size) (fz_WC k q f pa v) := (fz_leftD hD).self
  have hFc := va_free (wc := (fz_WC k q f pa v)) hD hS hA [0, 1, 2, 3, 4, 5, 6, 7, 8, 9, 10, 11, 12, 13, 14, 15, 16, 17, 18, 19, 20, 21, 22, 23, 24, 25, 26, 27, 28, 29, 30, 31, 32, 33, 34, 35, 36, 37] rfl
  refine fz_hVi (As := [.int p0, .int p1]) (rest := [.int 0, .ref o]) S0 (c_requestPart l hl0 (va_A (fz_WC k q f pa v) s.heap.size) D k q f pa v p0 p1 g_v_8) (fz_cwV (C := RX9) 2 hts fm_760 fm_761 fm_762 fm_763 fm_6 rfl rfl ⟨by decide, by decide, by decide +kernel⟩ ⟨Nat.le_of_ble_eq_true rfl, Nat.le_of_ble_eq_true rfl⟩) (va_recv hK hP (ci := 13) (q0 := 31) rfl rfl) hFc (fun a9 h9 => Or.inr h9) hG hS hPc hK hDc rfl hl.1 rfl (Nat.le_of_ble_eq_true rfl) dL_requestPart_5 ⟨Nat.le_of_ble_eq_true rfl, Nat.le_of_ble_eq_true rfl⟩ (fun E9 ce q9 H locs hE hz1 hk1 hS h1 h2 h3 => ?_) (fun r u H locs hw hz1 hk1 hP1 hS => ?_)
  · obtain ⟨hPo, hDo⟩ := va_join (wr := [(o, .inl (k 5, 1, .inr (.inl g)))]) (w1 := []) hP hD [0, 1, 2, 3, 4, 5, 6, 7, 8, 9, 10, 11, 12, 13, 14, 15, 16, 17, 18, 19, 20, 21, 22, 23, 24, 25, 26, 27, 28, 29, 30, 31, 32, 33, 34, 35, 36, 37] [38] rfl rfl (by decide) (by decide) hk1 hFc fz_nil fz_nilD
    have hPo : va_P D vwCl [(o, .inl (k 5, 1, .inr (.inl g)))] H := hPo
    rcases hE with ⟨rfl, hc9⟩
    · refine vx_catch (own := RL) (name := "java/lang/IndexOutOfBoundsException") hown [] ⟨0, 10, 13, 13⟩ [⟨0, 10, 17, 15⟩] (htab.trans rfl) (fun z hz => by cases hz) (by decide) (by decide) (hts _ (fz_m fm_654)) (fz_cast hG fm_653) h1 h2 h3 ?_
      refine lv_astore (lv' := [(4, .ref q9), (0, .ref (q 31)), (1, .int p0), (2, .int p1), (3, .ref o)]) hx hb dL_requestPart_13 hl (by decide) rfl (fun ls hl => ?_)
      refine lv_iconst (v := 1) hx hb dL_requestPart_15 (by decide) ?_
      exact vx_ret (fz_iret hx hb hr rfl hlocks hS dL_requestPart_16 g ⟨rfl, trivial⟩ hPo (Nat.le_of_ble_eq_true rfl) (Nat.le_of_ble_eq_true rfl))
  · obtain ⟨hPo, hDo⟩ := va_join (wr := [(o, .inl (k 5, 1, .inr (.inl g)))]) (w1 := []) hP hD [0, 1, 2, 3, 4, 5, 6, 7, 8, 9, 10, 11, 12, 13, 14, 15, 16, 17, 18, 19, 20, 21, 22, 23, 24, 25, 26, 27, 28, 29, 30, 31, 32, 33, 34, 35, 36, 37] [38] rfl rfl (by decide) (by decide) hk1 hFc hP1 fz_nilD
    have hPo : va_P D vwCl [(o, .inl (k 5, 1, .inr (.inl g)))] H := hPo
    have hDo : va_D A [(o, .inl (k 5, 1, .inr (.inl g)))] := hDo
    exact (show False from hw).elim

set_option maxHeartbeats 4000000 in
set_option maxRecDepth 100000 in
theorem h_cancel (l : Launch) (hl0 : l.stackTraces = false) (A : Nat → Prop) (D : va_G) (k : Nat → ClassId) (q : Nat → Nat) (f : Nat → Nat → Int32) (pa : Nat → Option Nat) (v : Nat → Int32) (o : Nat) (g : (Nat → Int64)) (p0 : Int32) (g_v_8 : v 8 = 0) :
    vx_Met l yL_cancel (Cond.codeWith yL_cancel cL_cancel 4 (some .int) [(0, 9, 12, 13)] :: fz_WA) { frames := 36, cells := 1, slots := 6, locals := 480 } (va_Pc [.ref (q 31), .int p0, .ref o] (fz_PC A D (fz_tys k) (fz_WC k q f pa v ++ [(o, .inl (k 5, 1, .inr (.inl g)))]))) (fz_QI D A (fun (u : (Nat → Int64)) => [(o, .inl (k 5, 1, .inr (.inl u)))]) (fun (r : Int32) (u : (Nat → Int64)) => (r = 1 ∧ True))) (fz_XC (fun _ => False) A) 1 6 A := by
  refine fz_ofH (by decide +kernel) (Nat.le_of_ble_eq_true rfl) ?_
  intro p e s m below meth c hx hb hr hml hown hlocks hts htab hA hP hK hD hG hS ls hl
  have hown : s.vm.findClass RL = some m.cls := hown
  have S0 : CallFix p m c cL_cancel 4 s [.ref (q 31), .int p0, .ref o].toArray (Cond.codeWith yL_cancel cL_cancel 4 (some .int) [(0, 9, 12, 13)] :: fz_WA) RL := ⟨hx, hb, hml, hown, hts⟩
  have hl : lv_has ls 4 [(0, .ref (q 31)), (1, .int p0), (2, .ref o)] := hl
  refine lv_aload_n hx hb dL_cancel_0 rfl (lv_at hl 2 rfl) ?_
  refine lv_iconst (v := 0) hx hb dL_cancel_1 (by decide) ?_
  refine lv_aload_n hx hb dL_cancel_2 rfl (lv_at hl 0 rfl) ?_
  refine lv_iload_n hx hb dL_cancel_3 rfl (lv_at hl 1 rfl) ?_
  have hPc : va_P D vwCl (fz_WC k q f pa v) s.heap := fz_left hP
  have hDc : va_D (va_A (fz_WC k q f pa v) s.heap.size) (fz_WC k q f pa v) := (fz_leftD hD).self
  have hFc := va_free (wc := (fz_WC k q f pa v)) hD hS hA [0, 1, 2, 3, 4, 5, 6, 7, 8, 9, 10, 11, 12, 13, 14, 15, 16, 17, 18, 19, 20, 21, 22, 23, 24, 25, 26, 27, 28, 29, 30, 31, 32, 33, 34, 35, 36, 37] rfl
  refine fz_hVi (As := [.int p0]) (rest := [.int 0, .ref o]) S0 (c_cancel l hl0 (va_A (fz_WC k q f pa v) s.heap.size) D k q f pa v p0 g_v_8) (fz_cwV (C := RX9) 1 hts fm_765 fm_766 fm_767 fm_768 fm_6 rfl rfl ⟨by decide, by decide, by decide +kernel⟩ ⟨Nat.le_of_ble_eq_true rfl, Nat.le_of_ble_eq_true rfl⟩) (va_recv hK hP (ci := 13) (q0 := 31) rfl rfl) hFc (fun a9 h9 => Or.inr h9) hG hS hPc hK hDc rfl hl.1 rfl (Nat.le_of_ble_eq_true rfl) dL_cancel_4 ⟨Nat.le_of_ble_eq_true rfl, Nat.le_of_ble_eq_true rfl⟩ (fun E9 ce q9 H locs hE hz1 hk1 hS h1 h2 h3 => ?_) (fun r u H locs hw hz1 hk1 hP1 hS => ?_)
  · obtain ⟨hPo, hDo⟩ := va_join (wr := [(o, .inl (k 5, 1, .inr (.inl g)))]) (w1 := []) hP hD [0, 1, 2, 3, 4, 5, 6, 7, 8, 9, 10, 11, 12, 13, 14, 15, 16, 17, 18, 19, 20, 21, 22, 23, 24, 25, 26, 27, 28, 29, 30, 31, 32, 33, 34, 35, 36, 37] [38] rfl rfl (by decide) (by decide) hk1 hFc fz_nil fz_nilD
    have hPo : va_P D vwCl [(o, .inl (k 5, 1, .inr (.inl g)))] H := hPo
    rcases hE with ⟨rfl, hc9⟩
    · refine vx_catch (own := RL) (name := "java/lang/IndexOutOfBoundsException") hown [] ⟨0, 9, 12, 13⟩ [] (htab.trans rfl) (fun z hz => by cases hz) (by decide) (by decide) (hts _ (fz_m fm_654)) (fz_cast hG fm_653) h1 h2 h3 ?_
      refine lv_astore_n (lv' := [(3, .ref q9), (0, .ref (q 31)), (1, .int p0), (2, .ref o)]) hx hb dL_cancel_12 rfl hl (by decide) rfl (fun ls hl => ?_)
      refine lv_iconst (v := 1) hx hb dL_cancel_13 (by decide) ?_
      exact vx_ret (fz_iret hx hb hr rfl hlocks hS dL_cancel_14 g ⟨rfl, trivial⟩ hPo (Nat.le_of_ble_eq_true rfl) (Nat.le_of_ble_eq_true rfl))
  · obtain ⟨hPo, hDo⟩ := va_join (wr := [(o, .inl (k 5, 1, .inr (.inl g)))]) (w1 := []) hP hD [0, 1, 2, 3, 4, 5, 6, 7, 8, 9, 10, 11, 12, 13, 14, 15, 16, 17, 18, 19, 20, 21, 22, 23, 24, 25, 26, 27, 28, 29, 30, 31, 32, 33, 34, 35, 36, 37] [38] rfl rfl (by decide) (by decide) hk1 hFc hP1 fz_nilD
    have hPo : va_P D vwCl [(o, .inl (k 5, 1, .inr (.inl g)))] H := hPo
    have hDo : va_D A [(o, .inl (k 5, 1, .inr (.inl g)))] := hDo
    exact (show False from hw).elim

set_option maxHeartbeats 4000000 in
set_option maxRecDepth 100000 in
theorem h_account (l : Launch) (hl0 : l.stackTraces = false) (A : Nat → Prop) (D : va_G) (k : Nat → ClassId) (q : Nat → Nat) (f : Nat → Nat → Int32) (pa : Nat → Option Nat) (v : Nat → Int32) (o : Nat) (g : (Nat → Int64)) (p0 : Int32) (g_v_2 : v 2 = 1) (g_f_2_0 : f 2 0 = 0) (g_f_7_0 : f 7 0 = 0) (g_f_6_0 : f 6 0 = 0) (g_v_4 : v 4 = 0) (g_v_5 : v 5 = 0) (g_v_7 : v 7 = 0) (g_v_8 : v 8 = 0) (g_v_6 : v 6 = 0) :
    vx_Met l yL_account (Cond.codeWith yL_account cL_account 4 (some .int) [(0, 9, 12, 15)] :: fz_WA) { frames := 36, cells := 1, slots := 6, locals := 480 } (va_Pc [.ref (q 31), .int p0, .ref o] (fz_PC A D (fz_tys k) (fz_WC k q f pa v ++ [(o, .inl (k 5, 1, .inr (.inl g)))]))) (fz_QI D A (fun (u : (Nat → Int64)) => [(o, .inl (k 5, 1, .inr (.inl u)))]) (fun (r : Int32) (u : (Nat → Int64)) => (r = 0 ∧ u 0 = (1 : Int32).toInt64 ∧ p0 = 0) ∨ (r = 0 ∧ u 0 = (0 : Int32).toInt64 ∧ (1 ≤ p0 ∧ p0 ≤ 9)) ∨ (r = 1 ∧ ¬ ((0 ≤ p0 ∧ p0 ≤ 9))))) (fz_XC (fun _ => False) A) 1 6 A := by
  refine fz_ofH (by decide +kernel) (Nat.le_of_ble_eq_true rfl) ?_
  intro p e s m below meth c hx hb hr hml hown hlocks hts htab hA hP hK hD hG hS ls hl
  have hown : s.vm.findClass RL = some m.cls := hown
  have S0 : CallFix p m c cL_account 4 s [.ref (q 31), .int p0, .ref o].toArray (Cond.codeWith yL_account cL_account 4 (some .int) [(0, 9, 12, 15)] :: fz_WA) RL := ⟨hx, hb, hml, hown, hts⟩
  have hl : lv_has ls 4 [(0, .ref (q 31)), (1, .int p0), (2, .ref o)] := hl
  refine lv_aload_n hx hb dL_account_0 rfl (lv_at hl 2 rfl) ?_
  refine lv_iconst (v := 0) hx hb dL_account_1 (by decide) ?_
  refine lv_aload_n hx hb dL_account_2 rfl (lv_at hl 0 rfl) ?_
  refine lv_iload_n hx hb dL_account_3 rfl (lv_at hl 1 rfl) ?_
  have hPc : va_P D vwCl (fz_WC k q f pa v) s.heap := fz_left hP
  have hDc : va_D (va_A (fz_WC k q f pa v) s.heap.size) (fz_WC k q f pa v) := (fz_leftD hD).self
  have hFc := va_free (wc := (fz_WC k q f pa v)) hD hS hA [0, 1, 2, 3, 4, 5, 6, 7, 8, 9, 10, 11, 12, 13, 14, 15, 16, 17, 18, 19, 20, 21, 22, 23, 24, 25, 26, 27, 28, 29, 30, 31, 32, 33, 34, 35, 36, 37] rfl
  refine fz_hVi (As := [.int p0]) (rest := [.int 0, .ref o]) S0 (c_account l hl0 (va_A (fz_WC k q f pa v) s.heap.size) D k q f pa v p0 g_v_2 g_f_2_0 g_f_7_0 g_f_6_0 g_v_4 g_v_5 g_v_7 g_v_8 g_v_6) (fz_cwV (C := RX9) 1 hts fm_770 fm_771 fm_772 fm_773 fm_6 rfl rfl ⟨by decide, by decide, by decide +kernel⟩ ⟨Nat.le_of_ble_eq_true rfl, Nat.le_of_ble_eq_true rfl⟩) (va_recv hK hP (ci := 13) (q0 := 31) rfl rfl) hFc (fun a9 h9 => Or.inr h9) hG hS hPc hK hDc rfl hl.1 rfl (Nat.le_of_ble_eq_true rfl) dL_account_4 ⟨Nat.le_of_ble_eq_true rfl, Nat.le_of_ble_eq_true rfl⟩ (fun E9 ce q9 H locs hE hz1 hk1 hS h1 h2 h3 => ?_) (fun r u H locs hw hz1 hk1 hP1 hS => ?_)
  · obtain ⟨hPo, hDo⟩ := va_join (wr := [(o, .inl (k 5, 1, .inr (.inl g)))]) (w1 := []) hP hD [0, 1, 2, 3, 4, 5, 6, 7, 8, 9, 10, 11, 12, 13, 14, 15, 16, 17, 18, 19, 20, 21, 22, 23, 24, 25, 26, 27, 28, 29, 30, 31, 32, 33, 34, 35, 36, 37] [38] rfl rfl (by decide) (by decide) hk1 hFc fz_nil fz_nilD
    have hPo : va_P D vwCl [(o, .inl (k 5, 1, .inr (.inl g)))] H := hPo
    rcases hE with ⟨rfl, hc9⟩
    · refine vx_catch (own := RL) (name := "java/lang/IllegalArgumentException") hown [] ⟨0, 9, 12, 15⟩ [] (htab.trans rfl) (fun z hz => by cases hz) (by decide) (by decide) (hts _ (fz_m fm_656)) (fz_cast hG fm_655) h1 h2 h3 ?_
      refine lv_astore_n (lv' := [(3, .ref q9), (0, .ref (q 31)), (1, .int p0), (2, .ref o)]) hx hb dL_account_12 rfl hl (by decide) rfl (fun ls hl => ?_)
      refine lv_iconst (v := 1) hx hb dL_account_13 (by decide) ?_
      exact vx_ret (fz_iret hx hb hr rfl hlocks hS dL_account_14 g (Or.inr (Or.inr ⟨rfl, hc9⟩)) hPo (Nat.le_of_ble_eq_true rfl) (Nat.le_of_ble_eq_true rfl))
  · obtain ⟨hPo, hDo⟩ := va_join (wr := [(o, .inl (k 5, 1, .inr (.inl g)))]) (w1 := []) hP hD [0, 1, 2, 3, 4, 5, 6, 7, 8, 9, 10, 11, 12, 13, 14, 15, 16, 17, 18, 19, 20, 21, 22, 23, 24, 25, 26, 27, 28, 29, 30, 31, 32, 33, 34, 35, 36, 37] [38] rfl rfl (by decide) (by decide) hk1 hFc hP1 fz_nilD
    have hPo : va_P D vwCl [(o, .inl (k 5, 1, .inr (.inl g)))] H := hPo
    have hDo : va_D A [(o, .inl (k 5, 1, .inr (.inl g)))] := hDo
    rcases hw with ⟨rfl, hc9⟩ | ⟨rfl, hc9⟩
    · skip
      refine lv_i2l hx hb dL_account_7 rfl ?_
      refine va_last hx hb hK hPo hDo hS 0 5 rfl rfl (fz_vin (by decide)) dL_account_8 (fun H locs hPo hDo hS => ?_)
      refine lv_goto (tgt := 15) hx hb dL_account_9 (by decide) ?_
      refine lv_iconst (v := 0) hx hb dL_account_15 (by decide) ?_
      exact vx_ret (fz_iret hx hb hr rfl hlocks hS dL_account_16 (vp_updL g (0 : Int32).toNatClampNeg (1 : Int32).toInt64) (Or.inl ⟨rfl, rfl, hc9⟩) hPo (Nat.le_of_ble_eq_true rfl) (Nat.le_of_ble_eq_true rfl))
    · skip
      refine lv_i2l hx hb dL_account_7 rfl ?_
      refine va_last hx hb hK hPo hDo hS 0 5 rfl rfl (fz_vin (by decide)) dL_account_8 (fun H locs hPo hDo hS => ?_)
      refine lv_goto (tgt := 15) hx hb dL_account_9 (by decide) ?_
      refine lv_iconst (v := 0) hx hb dL_account_15 (by decide) ?_
      exact vx_ret (fz_iret hx hb hr rfl hlocks hS dL_account_16 (vp_updL g (0 : Int32).toNatClampNeg (0 : Int32).toInt64) (Or.inr (Or.inl ⟨rfl, rfl, hc9⟩)) hPo (Nat.le_of_ble_eq_true rfl) (Nat.le_of_ble_eq_true rfl))

set_option maxHeartbeats 4000000 in
set_option maxRecDepth 100000 in
theorem h_dayCount (l : Launch) (hl0 : l.stackTraces = false) (A : Nat → Prop) (D : va_G) (k : Nat → ClassId) (q : Nat → Nat) (f : Nat → Nat → Int32) (pa : Nat → Option Nat) (v : Nat → Int32) (o : Nat) (g : (Nat → Int64)) (p0 p1 : Int32) (g_v_8 : v 8 = 0) (g_v_2 : v 2 = 1) (g_f_2_0 : f 2 0 = 0) (g_f_7_0 : f 7 0 = 0) :
    vx_Met l yL_dayCount (Cond.codeWith yL_dayCount cL_dayCount 5 (some .int) [(0, 10, 13, 15)] :: fz_WA) { frames := 36, cells := 2, slots := 12, locals := 480 } (va_Pc [.ref (q 31), .int p0, .int p1, .ref o] (fz_PC A D (fz_tys k) (fz_WC k q f pa v ++ [(o, .inl (k 5, 1, .inr (.inl g)))]))) (fz_QI D A (fun (u : (Nat → Int64)) => [(o, .inl (k 5, 1, .inr (.inl u)))]) (fun (r : Int32) (u : (Nat → Int64)) => (r = 0 ∧ u 0 = (0 : Int32).toInt64 ∧ ((0 ≤ p0 ∧ p0 ≤ 9999) ∧ (0 ≤ p1 ∧ p1 ≤ 3))) ∨ (r = 1 ∧ (¬ ((0 ≤ p0 ∧ p0 ≤ 9999)) ∨ ¬ ((0 ≤ p1 ∧ p1 ≤ 3)))))) (fz_XC (fun _ => False) A) 2 12 A := by
  refine fz_ofH (by decide +kernel) (Nat.le_of_ble_eq_true rfl) ?_
  intro p e s m below meth c hx hb hr hml hown hlocks hts htab hA hP hK hD hG hS ls hl
  have hown : s.vm.findClass RL = some m.cls := hown
  have S0 : CallFix p m c cL_dayCount 5 s [.ref (q 31), .int p0, .int p1, .ref o].toArray (Cond.codeWith yL_dayCount cL_dayCount 5 (some .int) [(0, 10, 13, 15)] :: fz_WA) RL := ⟨hx, hb, hml, hown, hts⟩
  have hl : lv_has ls 5 [(0, .ref (q 31)), (1, .int p0), (2, .int p1), (3, .ref o)] := hl
  refine lv_aload_n hx hb dL_dayCount_0 rfl (lv_at hl 3 rfl) ?_
  refine lv_iconst (v := 0) hx hb dL_dayCount_1 (by decide) ?_
  refine lv_aload_n hx hb dL_dayCount_2 rfl (lv_at hl 0 rfl) ?_
  refine lv_iload_n hx hb dL_dayCount_3 rfl (lv_at hl 1 rfl) ?_
  refine lv_iload_n hx hb dL_dayCount_4 rfl (lv_at hl 2 rfl) ?_
  have hPc : va_P D vwCl (fz_WC k q f pa v) s.heap := fz_left hP
  have hDc : va_D (va_A (fz_WC k q f pa v) s.heap.size) (fz_WC k q f pa v) := (fz_leftD hD).self
  have hFc := va_free (wc := (fz_WC k q f pa v)) hD hS hA [0, 1, 2, 3, 4, 5, 6, 7, 8, 9, 10, 11, 12, 13, 14, 15, 16, 17, 18, 19, 20, 21, 22, 23, 24, 25, 26, 27, 28, 29, 30, 31, 32, 33, 34, 35, 36, 37] rfl
  refine fz_hVi (As := [.int p0, .int p1]) (rest := [.int 0, .ref o]) S0 (c_dayCount l hl0 (va_A (fz_WC k q f pa v) s.heap.size) D k q f pa v p0 p1 g_v_8 g_v_2 g_f_2_0 g_f_7_0) (fz_cwV (C := RX9) 2 hts fm_775 fm_776 fm_777 fm_778 fm_6 rfl rfl ⟨by decide, by decide, by decide +kernel⟩ ⟨Nat.le_of_ble_eq_true rfl, Nat.le_of_ble_eq_true rfl⟩) (va_recv hK hP (ci := 13) (q0 := 31) rfl rfl) hFc (fun a9 h9 => Or.inr h9) hG hS hPc hK hDc rfl hl.1 rfl (Nat.le_of_ble_eq_true rfl) dL_dayCount_5 ⟨Nat.le_of_ble_eq_true rfl, Nat.le_of_ble_eq_true rfl⟩ (fun E9 ce q9 H locs hE hz1 hk1 hS h1 h2 h3 => ?_) (fun r u H locs hw hz1 hk1 hP1 hS => ?_)
  · obtain ⟨hPo, hDo⟩ := va_join (wr := [(o, .inl (k 5, 1, .inr (.inl g)))]) (w1 := []) hP hD [0, 1, 2, 3, 4, 5, 6, 7, 8, 9, 10, 11, 12, 13, 14, 15, 16, 17, 18, 19, 20, 21, 22, 23, 24, 25, 26, 27, 28, 29, 30, 31, 32, 33, 34, 35, 36, 37] [38] rfl rfl (by decide) (by decide) hk1 hFc fz_nil fz_nilD
    have hPo : va_P D vwCl [(o, .inl (k 5, 1, .inr (.inl g)))] H := hPo
    rcases hE with ⟨rfl, hc9⟩
    · refine vx_catch (own := RL) (name := "java/lang/IllegalArgumentException") hown [] ⟨0, 10, 13, 15⟩ [] (htab.trans rfl) (fun z hz => by cases hz) (by decide) (by decide) (hts _ (fz_m fm_656)) (fz_cast hG fm_655) h1 h2 h3 ?_
      refine lv_astore (lv' := [(4, .ref q9), (0, .ref (q 31)), (1, .int p0), (2, .int p1), (3, .ref o)]) hx hb dL_dayCount_13 hl (by decide) rfl (fun ls hl => ?_)
      refine lv_iconst (v := 1) hx hb dL_dayCount_15 (by decide) ?_
      exact vx_ret (fz_iret hx hb hr rfl hlocks hS dL_dayCount_16 g (Or.inr ⟨rfl, hc9⟩) hPo (Nat.le_of_ble_eq_true rfl) (Nat.le_of_ble_eq_true rfl))
  · obtain ⟨hPo, hDo⟩ := va_join (wr := [(o, .inl (k 5, 1, .inr (.inl g)))]) (w1 := []) hP hD [0, 1, 2, 3, 4, 5, 6, 7, 8, 9, 10, 11, 12, 13, 14, 15, 16, 17, 18, 19, 20, 21, 22, 23, 24, 25, 26, 27, 28, 29, 30, 31, 32, 33, 34, 35, 36, 37] [38] rfl rfl (by decide) (by decide) hk1 hFc hP1 fz_nilD
    have hPo : va_P D vwCl [(o, .inl (k 5, 1, .inr (.inl g)))] H := hPo
    have hDo : va_D A [(o, .inl (k 5, 1, .inr (.inl g)))] := hDo
    obtain ⟨rfl, hc9⟩ := hw
    refine lv_i2l hx hb dL_dayCount_8 rfl ?_
    refine va_last hx hb hK hPo hDo hS 0 5 rfl rfl (fz_vin (by decide)) dL_dayCount_9 (fun H locs hPo hDo hS => ?_)
    refine lv_goto (tgt := 17) hx hb dL_dayCount_10 (by decide) ?_
    refine lv_iconst (v := 0) hx hb dL_dayCount_17 (by decide) ?_
    exact vx_ret (fz_iret hx hb hr rfl hlocks hS dL_dayCount_18 (vp_updL g (0 : Int32).toNatClampNeg (0 : Int32).toInt64) (Or.inl ⟨rfl, rfl, hc9⟩) hPo (Nat.le_of_ble_eq_true rfl) (Nat.le_of_ble_eq_true rfl))

set_option maxHeartbeats 4000000 in
set_option maxRecDepth 100000 in
theorem h_openShare (l : Launch) (hl0 : l.stackTraces = false) (A : Nat → Prop) (D : va_G) (k : Nat → ClassId) (q : Nat → Nat) (f : Nat → Nat → Int32) (pa : Nat → Option Nat) (v : Nat → Int32) (o : Nat) (g : (Nat → UInt64)) (p0 : Int32) (g_v_2 : v 2 = 1) (g_f_6_0 : f 6 0 = 0) (g_f_2_0 : f 2 0 = 0) (g_f_7_0 : f 7 0 = 0) :
    vx_Met l yL_openShare (Cond.codeWith yL_openShare cL_openShare 4 (some .int) [(0, 8, 11, 15), (0, 8, 14, 105)] :: fz_WA) { frames := 36, cells := 2, slots := 12, locals := 480 } (va_Pc [.ref (q 31), .int p0, .ref o] (fz_PC A D (fz_tys k) (fz_WC k q f pa v ++ [(o, .inl (k 6, 1, .inr (.inr (.inr (.inl g)))))]))) (fz_QI D A (fun (u : (Nat → UInt64)) => [(o, .inl (k 6, 1, .inr (.inr (.inr (.inl u)))))]) (fun (r : Int32) (u : (Nat → UInt64)) => (r = 1 ∧ ¬ ((0 ≤ p0 ∧ p0 ≤ 9999))) ∨ (r = 2 ∧ (0 ≤ p0 ∧ p0 ≤ 9999)))) (fz_XC (fun _ => False) A) 2 12 A := by
  refine fz_ofH (by decide +kernel) (Nat.le_of_ble_eq_true rfl) ?_
  intro p e s m below meth c hx hb hr hml hown hlocks hts htab hA hP hK hD hG hS ls hl
  have hown : s.vm.findClass RL = some m.cls := hown
  have S0 : CallFix p m c cL_openShare 4 s [.ref (q 31), .int p0, .ref o].toArray (Cond.codeWith yL_openShare cL_openShare 4 (some .int) [(0, 8, 11, 15), (0, 8, 14, 105)] :: fz_WA) RL := ⟨hx, hb, hml, hown, hts⟩
  have hl : lv_has ls 4 [(0, .ref (q 31)), (1, .int p0), (2, .ref o)] := hl
  refine lv_aload_n hx hb dL_openShare_0 rfl (lv_at hl 2 rfl) ?_
  refine lv_iconst (v := 0) hx hb dL_openShare_1 (by decide) ?_
  refine lv_aload_n hx hb dL_openShare_2 rfl (lv_at hl 0 rfl) ?_
  refine lv_iload_n hx hb dL_openShare_3 rfl (lv_at hl 1 rfl) ?_
  have hPc : va_P D vwCl (fz_WC k q f pa v) s.heap := fz_left hP
  have hDc : va_D (va_A (fz_WC k q f pa v) s.heap.size) (fz_WC k q f pa v) := (fz_leftD hD).self
  have hFc := va_free (wc := (fz_WC k q f pa v)) hD hS hA [0, 1, 2, 3, 4, 5, 6, 7, 8, 9, 10, 11, 12, 13, 14, 15, 16, 17, 18, 19, 20, 21, 22, 23, 24, 25, 26, 27, 28, 29, 30, 31, 32, 33, 34, 35, 36, 37] rfl
  refine fz_hVd (As := [.int p0]) (rest := [.int 0, .ref o]) S0 (c_openShare l hl0 (va_A (fz_WC k q f pa v) s.heap.size) D k q f pa v p0 g_v_2 g_f_6_0 g_f_2_0 g_f_7_0) (fz_cwV (C := RX9) 1 hts fm_780 fm_781 fm_782 fm_783 fm_6 rfl rfl ⟨by decide, by decide, by decide +kernel⟩ ⟨Nat.le_of_ble_eq_true rfl, Nat.le_of_ble_eq_true rfl⟩) (va_recv hK hP (ci := 13) (q0 := 31) rfl rfl) hFc (fun a9 h9 => Or.inr h9) hG hS hPc hK hDc rfl hl.1 rfl (Nat.le_of_ble_eq_true rfl) dL_openShare_4 ⟨Nat.le_of_ble_eq_true rfl, Nat.le_of_ble_eq_true rfl⟩ (fun E9 ce q9 H locs hE hz1 hk1 hS h1 h2 h3 => ?_)
  · obtain ⟨hPo, hDo⟩ := va_join (wr := [(o, .inl (k 6, 1, .inr (.inr (.inr (.inl g)))))]) (w1 := []) hP hD [0, 1, 2, 3, 4, 5, 6, 7, 8, 9, 10, 11, 12, 13, 14, 15, 16, 17, 18, 19, 20, 21, 22, 23, 24, 25, 26, 27, 28, 29, 30, 31, 32, 33, 34, 35, 36, 37] [38] rfl rfl (by decide) (by decide) hk1 hFc fz_nil fz_nilD
    have hPo : va_P D vwCl [(o, .inl (k 6, 1, .inr (.inr (.inr (.inl g)))))] H := hPo
    rcases hE with ⟨rfl, hc9⟩ | ⟨rfl, hc9⟩
    · refine vx_catch (own := RL) (name := "java/lang/IllegalArgumentException") hown [] ⟨0, 8, 11, 15⟩ [⟨0, 8, 14, 105⟩] (htab.trans rfl) (fun z hz => by cases hz) (by decide) (by decide) (hts _ (fz_m fm_656)) (fz_cast hG fm_655) h1 h2 h3 ?_
      refine lv_astore_n (lv' := [(3, .ref q9), (0, .ref (q 31)), (1, .int p0), (2, .ref o)]) hx hb dL_openShare_11 rfl hl (by decide) rfl (fun ls hl => ?_)
      refine lv_iconst (v := 1) hx hb dL_openShare_12 (by decide) ?_
      exact vx_ret (fz_iret hx hb hr rfl hlocks hS dL_openShare_13 g (Or.inl ⟨rfl, hc9⟩) hPo (Nat.le_of_ble_eq_true rfl) (Nat.le_of_ble_eq_true rfl))
    · refine vx_catch (own := RL) (name := "java/lang/ArithmeticException") hown [⟨0, 8, 11, 15⟩] ⟨0, 8, 14, 105⟩ [] (htab.trans rfl) (List.forall_mem_cons.mpr ⟨Or.inr ⟨by decide, "java/lang/IllegalArgumentException", hts _ (fz_m fm_656), hG.2.2.2.2.2.1 ("java/lang/ArithmeticException", "java/lang/IllegalArgumentException") (by decide)⟩, (fun z hz => by cases hz)⟩) (by decide) (by decide) (hts _ (fz_m fm_785)) (fz_cast hG fm_784) h1 h2 h3 ?_
      refine lv_astore_n (lv' := [(3, .ref q9), (0, .ref (q 31)), (1, .int p0), (2, .ref o)]) hx hb dL_openShare_14 rfl hl (by decide) rfl (fun ls hl => ?_)
      refine lv_iconst (v := 2) hx hb dL_openShare_15 (by decide) ?_
      exact vx_ret (fz_iret hx hb hr rfl hlocks hS dL_openShare_16 g (Or.inr ⟨rfl, hc9⟩) hPo (Nat.le_of_ble_eq_true rfl) (Nat.le_of_ble_eq_true rfl))

set_option maxHeartbeats 4000000 in
set_option maxRecDepth 100000 in
theorem h_feed (l : Launch) (hl0 : l.stackTraces = false) (A : Nat → Prop) (D : va_G) (k : Nat → ClassId) (q : Nat → Nat) (f : Nat → Nat → Int32) (pa : Nat → Option Nat) (v : Nat → Int32) (o : Nat) (g : (Nat → Int64)) (p0 : Int32) (g_v_12 : v 12 = 0) :
    vx_Met l yL_feed (Cond.codeWith yL_feed cL_feed 4 (some .int) [(0, 9, 12, 17)] :: fz_WA) { frames := 24, cells := 0, slots := 0, locals := 320 } (va_Pc [.ref (q 31), .int p0, .ref o] (fz_PC A D (fz_tys k) (fz_WC k q f pa v ++ [(o, .inl (k 5, 1, .inr (.inl g)))]))) (fz_QI D A (fun (u : (Nat → Int64)) => [(o, .inl (k 5, 1, .inr (.inl u)))]) (fun (r : Int32) (u : (Nat → Int64)) => (r = 0 ∧ u 0 = (1 : Int32).toInt64 ∧ True) ∨ (r = 1 ∧ False))) (fz_XC (fun _ => False) A) 0 0 A := by
  refine fz_ofH (by decide +kernel) (Nat.le_of_ble_eq_true rfl) ?_
  intro p e s m below meth c hx hb hr hml hown hlocks hts htab hA hP hK hD hG hS ls hl
  have hown : s.vm.findClass RL = some m.cls := hown
  have S0 : CallFix p m c cL_feed 4 s [.ref (q 31), .int p0, .ref o].toArray (Cond.codeWith yL_feed cL_feed 4 (some .int) [(0, 9, 12, 17)] :: fz_WA) RL := ⟨hx, hb, hml, hown, hts⟩
  have hl : lv_has ls 4 [(0, .ref (q 31)), (1, .int p0), (2, .ref o)] := hl
  refine lv_aload_n hx hb dL_feed_0 rfl (lv_at hl 2 rfl) ?_
  refine lv_iconst (v := 0) hx hb dL_feed_1 (by decide) ?_
  refine lv_aload_n hx hb dL_feed_2 rfl (lv_at hl 0 rfl) ?_
  refine lv_iload_n hx hb dL_feed_3 rfl (lv_at hl 1 rfl) ?_
  have hPc : va_P D vwCl (fz_WC k q f pa v) s.heap := fz_left hP
  have hDc : va_D (va_A (fz_WC k q f pa v) s.heap.size) (fz_WC k q f pa v) := (fz_leftD hD).self
  have hFc := va_free (wc := (fz_WC k q f pa v)) hD hS hA [0, 1, 2, 3, 4, 5, 6, 7, 8, 9, 10, 11, 12, 13, 14, 15, 16, 17, 18, 19, 20, 21, 22, 23, 24, 25, 26, 27, 28, 29, 30, 31, 32, 33, 34, 35, 36, 37] rfl
  refine fz_hVi (As := [.int p0]) (rest := [.int 0, .ref o]) S0 (c_feed l hl0 (va_A (fz_WC k q f pa v) s.heap.size) D k q f pa v p0 g_v_12) (fz_cwV (C := RX9) 1 hts fm_787 fm_788 fm_789 fm_790 fm_6 rfl rfl ⟨by decide, by decide, by decide +kernel⟩ ⟨Nat.le_of_ble_eq_true rfl, Nat.le_of_ble_eq_true rfl⟩) (va_recv hK hP (ci := 13) (q0 := 31) rfl rfl) hFc (fun a9 h9 => Or.inr h9) hG hS hPc hK hDc rfl hl.1 rfl (Nat.le_of_ble_eq_true rfl) dL_feed_4 ⟨Nat.le_of_ble_eq_true rfl, Nat.le_of_ble_eq_true rfl⟩ (fun E9 ce q9 H locs hE hz1 hk1 hS h1 h2 h3 => ?_) (fun r u H locs hw hz1 hk1 hP1 hS => ?_)
  · obtain ⟨hPo, hDo⟩ := va_join (wr := [(o, .inl (k 5, 1, .inr (.inl g)))]) (w1 := []) hP hD [0, 1, 2, 3, 4, 5, 6, 7, 8, 9, 10, 11, 12, 13, 14, 15, 16, 17, 18, 19, 20, 21, 22, 23, 24, 25, 26, 27, 28, 29, 30, 31, 32, 33, 34, 35, 36, 37] [38] rfl rfl (by decide) (by decide) hk1 hFc fz_nil fz_nilD
    have hPo : va_P D vwCl [(o, .inl (k 5, 1, .inr (.inl g)))] H := hPo
    rcases hE with ⟨rfl, hc9⟩
    · exact hc9.elim
  · obtain ⟨hPo, hDo⟩ := va_join (wr := [(o, .inl (k 5, 1, .inr (.inl g)))]) (w1 := []) hP hD [0, 1, 2, 3, 4, 5, 6, 7, 8, 9, 10, 11, 12, 13, 14, 15, 16, 17, 18, 19, 20, 21, 22, 23, 24, 25, 26, 27, 28, 29, 30, 31, 32, 33, 34, 35, 36, 37] [38] rfl rfl (by decide) (by decide) hk1 hFc hP1 fz_nilD
    have hPo : va_P D vwCl [(o, .inl (k 5, 1, .inr (.inl g)))] H := hPo
    have hDo : va_D A [(o, .inl (k 5, 1, .inr (.inl g)))] := hDo
    obtain rfl : r = 1 := hw
    refine lv_i2l hx hb dL_feed_7 rfl ?_
    refine va_last hx hb hK hPo hDo hS 0 5 rfl rfl (fz_vin (by decide)) dL_feed_8 (fun H locs hPo hDo hS => ?_)
    refine lv_goto (tgt := 15) hx hb dL_feed_9 (by decide) ?_
    refine lv_iconst (v := 0) hx hb dL_feed_15 (by decide) ?_
    exact vx_ret (fz_iret hx hb hr rfl hlocks hS dL_feed_16 (vp_updL g (0 : Int32).toNatClampNeg (1 : Int32).toInt64) (Or.inl ⟨rfl, rfl, trivial⟩) hPo (Nat.le_of_ble_eq_true rfl) (Nat.le_of_ble_eq_true rfl))

set_option maxHeartbeats 4000000 in
set_option maxRecDepth 100000 in
theorem h_read (l : Launch) (hl0 : l.stackTraces = false) (A : Nat → Prop) (D : va_G) (k : Nat → ClassId) (q : Nat → Nat) (f : Nat → Nat → Int32) (pa : Nat → Option Nat) (v : Nat → Int32) (o : Nat) (g : (Nat → Int64)) (p0 : Int32) (g_v_1 : v 1 = 1) (g_f_4_0 : f 4 0 = 0) (g_v_12 : v 12 = 0) :
    vx_Met l yL_read (Cond.codeWith yL_read cL_read 4 (some .int) [(0, 9, 12, 13), (0, 9, 15, 87)] :: fz_WA) { frames := 48, cells := 1, slots := 6, locals := 640 } (va_Pc [.ref (q 31), .int p0, .ref o] (fz_PC A D (fz_tys k) (fz_WC k q f pa v ++ [(o, .inl (k 5, 1, .inr (.inl g)))]))) (fz_QI D A (fun (u : (Nat → Int64)) => [(o, .inl (k 5, 1, .inr (.inl u)))]) (fun (r : Int32) (u : (Nat → Int64)) => (r = 0 ∧ u 0 = ((-100) : Int32).toInt64 ∧ p0 = 0) ∨ (r = 1 ∧ ¬ (p0 = 0)))) (fz_XC (fun _ => False) A) 1 6 A := by
  refine fz_ofH (by decide +kernel) (Nat.le_of_ble_eq_true rfl) ?_
  intro p e s m below meth c hx hb hr hml hown hlocks hts htab hA hP hK hD hG hS ls hl
  have hown : s.vm.findClass RL = some m.cls := hown
  have S0 : CallFix p m c cL_read 4 s [.ref (q 31), .int p0, .ref o].toArray (Cond.codeWith yL_read cL_read 4 (some .int) [(0, 9, 12, 13), (0, 9, 15, 87)] :: fz_WA) RL := ⟨hx, hb, hml, hown, hts⟩
  have hl : lv_has ls 4 [(0, .ref (q 31)), (1, .int p0), (2, .ref o)] := hl
  refine lv_aload_n hx hb dL_read_0 rfl (lv_at hl 2 rfl) ?_
  refine lv_iconst (v := 0) hx hb dL_read_1 (by decide) ?_
  refine lv_aload_n hx hb dL_read_2 rfl (lv_at hl 0 rfl) ?_
  refine lv_iload_n hx hb dL_read_3 rfl (lv_at hl 1 rfl) ?_
  have hPc : va_P D vwCl (fz_WC k q f pa v) s.heap := fz_left hP
  have hDc : va_D (va_A (fz_WC k q f pa v) s.heap.size) (fz_WC k q f pa v) := (fz_leftD hD).self
  have hFc := va_free (wc := (fz_WC k q f pa v)) hD hS hA [0, 1, 2, 3, 4, 5, 6, 7, 8, 9, 10, 11, 12, 13, 14, 15, 16, 17, 18, 19, 20, 21, 22, 23, 24, 25, 26, 27, 28, 29, 30, 31, 32, 33, 34, 35, 36, 37] rfl
  refine fz_hVi (As := [.int p0]) (rest := [.int 0, .ref o]) S0 (c_read l hl0 (va_A (fz_WC k q f pa v) s.heap.size) D k q f pa v p0 g_v_1 g_f_4_0 g_v_12) (fz_cwV (C := RX9) 1 hts fm_792 fm_793 fm_794 fm_795 fm_6 rfl rfl ⟨by decide, by decide, by decide +kernel⟩ ⟨Nat.le_of_ble_eq_true rfl, Nat.le_of_ble_eq_true rfl⟩) (va_recv hK hP (ci := 13) (q0 := 31) rfl rfl) hFc (fun a9 h9 => Or.inr h9) hG hS hPc hK hDc rfl hl.1 rfl (Nat.le_of_ble_eq_true rfl) dL_read_4 ⟨Nat.le_of_ble_eq_true rfl, Nat.le_of_ble_eq_true rfl⟩ (fun E9 ce q9 H locs hE hz1 hk1 hS h1 h2 h3 => ?_) (fun r u H locs hw hz1 hk1 hP1 hS => ?_)
  · obtain ⟨hPo, hDo⟩ := va_join (wr := [(o, .inl (k 5, 1, .inr (.inl g)))]) (w1 := []) hP hD [0, 1, 2, 3, 4, 5, 6, 7, 8, 9, 10, 11, 12, 13, 14, 15, 16, 17, 18, 19, 20, 21, 22, 23, 24, 25, 26, 27, 28, 29, 30, 31, 32, 33, 34, 35, 36, 37] [38] rfl rfl (by decide) (by decide) hk1 hFc fz_nil fz_nilD
    have hPo : va_P D vwCl [(o, .inl (k 5, 1, .inr (.inl g)))] H := hPo
    rcases hE with ⟨rfl, hc9⟩
    · refine vx_catch (own := RL) (name := "java/lang/IndexOutOfBoundsException") hown [] ⟨0, 9, 12, 13⟩ [⟨0, 9, 15, 87⟩] (htab.trans rfl) (fun z hz => by cases hz) (by decide) (by decide) (hts _ (fz_m fm_654)) (fz_cast hG fm_653) h1 h2 h3 ?_
      refine lv_astore_n (lv' := [(3, .ref q9), (0, .ref (q 31)), (1, .int p0), (2, .ref o)]) hx hb dL_read_12 rfl hl (by decide) rfl (fun ls hl => ?_)
      refine lv_iconst (v := 1) hx hb dL_read_13 (by decide) ?_
      exact vx_ret (fz_iret hx hb hr rfl hlocks hS dL_read_14 g (Or.inr ⟨rfl, hc9⟩) hPo (Nat.le_of_ble_eq_true rfl) (Nat.le_of_ble_eq_true rfl))
  · obtain ⟨hPo, hDo⟩ := va_join (wr := [(o, .inl (k 5, 1, .inr (.inl g)))]) (w1 := []) hP hD [0, 1, 2, 3, 4, 5, 6, 7, 8, 9, 10, 11, 12, 13, 14, 15, 16, 17, 18, 19, 20, 21, 22, 23, 24, 25, 26, 27, 28, 29, 30, 31, 32, 33, 34, 35, 36, 37] [38] rfl rfl (by decide) (by decide) hk1 hFc hP1 fz_nilD
    have hPo : va_P D vwCl [(o, .inl (k 5, 1, .inr (.inl g)))] H := hPo
    have hDo : va_D A [(o, .inl (k 5, 1, .inr (.inl g)))] := hDo
    obtain ⟨rfl, hc9⟩ := hw
    refine lv_i2l hx hb dL_read_7 rfl ?_
    refine va_last hx hb hK hPo hDo hS 0 5 rfl rfl (fz_vin (by decide)) dL_read_8 (fun H locs hPo hDo hS => ?_)
    refine lv_goto (tgt := 18) hx hb dL_read_9 (by decide) ?_
    refine lv_iconst (v := 0) hx hb dL_read_18 (by decide) ?_
    exact vx_ret (fz_iret hx hb hr rfl hlocks hS dL_read_19 (vp_updL g (0 : Int32).toNatClampNeg ((-100) : Int32).toInt64) (Or.inl ⟨rfl, rfl, hc9⟩) hPo (Nat.le_of_ble_eq_true rfl) (Nat.le_of_ble_eq_true rfl))

set_option maxHeartbeats 4000000 in
set_option maxRecDepth 100000 in
theorem h_write (l : Launch) (hl0 : l.stackTraces = false) (A : Nat → Prop) (D : va_G) (k : Nat → ClassId) (q : Nat → Nat) (f : Nat → Nat → Int32) (pa : Nat → Option Nat) (v : Nat → Int32) (o : Nat) (g : (Nat → Int64)) (p0 : Int32) (g_v_1 : v 1 = 1) (g_f_4_0 : f 4 0 = 0) (g_v_15 : v 15 = 0) (g_v_17 : v 17 = 0) (g_v_2 : v 2 = 1) (g_f_6_0 : f 6 0 = 0) (g_f_5_0 : f 5 0 = (-1)) (g_f_2_0 : f 2 0 = 0) (g_f_7_0 : f 7 0 = 0) (g_f_8_0 : f 8 0 = (-1)) :
    vx_Met l yL_write (Cond.codeWith yL_write cL_write 4 (some .int) [(0, 9, 12, 13)] :: fz_WA) { frames := 60, cells := 1, slots := 6, locals := 800 } (va_Pc [.ref (q 31), .int p0, .ref o] (fz_PC A D (fz_tys k) (fz_WC k q f pa v ++ [(o, .inl (k 5, 1, .inr (.inl g)))]))) (fz_QI D A (fun (u : (Nat → Int64)) => [(o, .inl (k 5, 1, .inr (.inl u)))]) (fun (r : Int32) (u : (Nat → Int64)) => (r = 0 ∧ u 0 = (1 : Int32).toInt64 ∧ p0 = 0) ∨ (r = 1 ∧ ¬ (p0 = 0)))) (fz_XC (fun _ => False) A) 1 6 A := by
  refine fz_ofH (by decide +kernel) (Nat.le_of_ble_eq_true rfl) ?_
  intro p e s m below meth c hx hb hr hml hown hlocks hts htab hA hP hK hD hG hS ls hl
  have hown : s.vm.findClass RL = some m.cls := hown
  have S0 : CallFix p m c cL_write 4 s [.ref (q 31), .int p0, .ref o].toArray (Cond.codeWith yL_write cL_write 4 (some .int) [(0, 9, 12, 13)] :: fz_WA) RL := ⟨hx, hb, hml, hown, hts⟩
  have hl : lv_has ls 4 [(0, .ref (q 31)), (1, .int p0), (2, .ref o)] := hl
  refine lv_aload_n hx hb dL_write_0 rfl (lv_at hl 2 rfl) ?_
  refine lv_iconst (v := 0) hx hb dL_write_1 (by decide) ?_
  refine lv_aload_n hx hb dL_write_2 rfl (lv_at hl 0 rfl) ?_
  refine lv_iload_n hx hb dL_write_3 rfl (lv_at hl 1 rfl) ?_
  have hPc : va_P D vwCl (fz_WC k q f pa v) s.heap := fz_left hP
  have hDc : va_D (va_A (fz_WC k q f pa v) s.heap.size) (fz_WC k q f pa v) := (fz_leftD hD).self
  have hFc := va_free (wc := (fz_WC k q f pa v)) hD hS hA [0, 1, 2, 3, 4, 5, 6, 7, 8, 9, 10, 11, 12, 13, 14, 15, 16, 17, 18, 19, 20, 21, 22, 23, 24, 25, 26, 27, 28, 29, 30, 31, 32, 33, 34, 35, 36, 37] rfl
  refine fz_hVi (As := [.int p0]) (rest := [.int 0, .ref o]) S0 (c_write l hl0 (va_A (fz_WC k q f pa v) s.heap.size) D k q f pa v p0 g_v_1 g_f_4_0 g_v_15 g_v_17 g_v_2 g_f_6_0 g_f_5_0 g_f_2_0 g_f_7_0 g_f_8_0) (fz_cwV (C := RX9) 1 hts fm_797 fm_798 fm_799 fm_800 fm_6 rfl rfl ⟨by decide, by decide, by decide +kernel⟩ ⟨Nat.le_of_ble_eq_true rfl, Nat.le_of_ble_eq_true rfl⟩) (va_recv hK hP (ci := 13) (q0 := 31) rfl rfl) hFc (fun a9 h9 => Or.inr h9) hG hS hPc hK hDc rfl hl.1 rfl (Nat.le_of_ble_eq_true rfl) dL_write_4 ⟨Nat.le_of_ble_eq_true rfl, Nat.le_of_ble_eq_true rfl⟩ (fun E9 ce q9 H locs hE hz1 hk1 hS h1 h2 h3 => ?_) (fun r u H locs hw hz1 hk1 hP1 hS => ?_)
  · obtain ⟨hPo, hDo⟩ := va_join (wr := [(o, .inl (k 5, 1, .inr (.inl g)))]) (w1 := []) hP hD [0, 1, 2, 3, 4, 5, 6, 7, 8, 9, 10, 11, 12, 13, 14, 15, 16, 17, 18, 19, 20, 21, 22, 23, 24, 25, 26, 27, 28, 29, 30, 31, 32, 33, 34, 35, 36, 37] [38] rfl rfl (by decide) (by decide) hk1 hFc fz_nil fz_nilD
    have hPo : va_P D vwCl [(o, .inl (k 5, 1, .inr (.inl g)))] H := hPo
    rcases hE with ⟨rfl, hc9⟩
    · refine vx_catch (own := RL) (name := "java/lang/IndexOutOfBoundsException") hown [] ⟨0, 9, 12, 13⟩ [] (htab.trans rfl) (fun z hz => by cases hz) (by decide) (by decide) (hts _ (fz_m fm_654)) (fz_cast hG fm_653) h1 h2 h3 ?_
      refine lv_astore_n (lv' := [(3, .ref q9), (0, .ref (q 31)), (1, .int p0), (2, .ref o)]) hx hb dL_write_12 rfl hl (by decide) rfl (fun ls hl => ?_)
      refine lv_iconst (v := 1) hx hb dL_write_13 (by decide) ?_
      exact vx_ret (fz_iret hx hb hr rfl hlocks hS dL_write_14 g (Or.inr ⟨rfl, hc9⟩) hPo (Nat.le_of_ble_eq_true rfl) (Nat.le_of_ble_eq_true rfl))
  · obtain ⟨hPo, hDo⟩ := va_join (wr := [(o, .inl (k 5, 1, .inr (.inl g)))]) (w1 := []) hP hD [0, 1, 2, 3, 4, 5, 6, 7, 8, 9, 10, 11, 12, 13, 14, 15, 16, 17, 18, 19, 20, 21, 22, 23, 24, 25, 26, 27, 28, 29, 30, 31, 32, 33, 34, 35, 36, 37] [38] rfl rfl (by decide) (by decide) hk1 hFc hP1 fz_nilD
    have hPo : va_P D vwCl [(o, .inl (k 5, 1, .inr (.inl g)))] H := hPo
    have hDo : va_D A [(o, .inl (k 5, 1, .inr (.inl g)))] := hDo
    obtain ⟨rfl, hc9⟩ := hw
    refine lv_i2l hx hb dL_write_7 rfl ?_
    refine va_last hx hb hK hPo hDo hS 0 5 rfl rfl (fz_vin (by decide)) dL_write_8 (fun H locs hPo hDo hS => ?_)
    refine lv_goto (tgt := 15) hx hb dL_write_9 (by decide) ?_
    refine lv_iconst (v := 0) hx hb dL_write_15 (by decide) ?_
    exact vx_ret (fz_iret hx hb hr rfl hlocks hS dL_write_16 (vp_updL g (0 : Int32).toNatClampNeg (1 : Int32).toInt64) (Or.inl ⟨rfl, rfl, hc9⟩) hPo (Nat.le_of_ble_eq_true rfl) (Nat.le_of_ble_eq_true rfl))

set_option maxHeartbeats 4000000 in
set_option maxRecDepth 100000 in
theorem h_text (l : Launch) (hl0 : l.stackTraces = false) (A : Nat → Prop) (D : va_G) (k : Nat → ClassId) (q : Nat → Nat) (f : Nat → Nat → Int32) (pa : Nat → Option Nat) (v : Nat → Int32) (o : Nat) (g : (Nat → Int64)) (p0 : Int32) (g_v_17 : v 17 = 0) :
    vx_Met l yL_text (Cond.codeWith yL_text cL_text 4 (some .int) [(0, 9, 12, 13)] :: fz_WA) { frames := 36, cells := 1, slots := 6, locals := 480 } (va_Pc [.ref (q 31), .int p0, .ref o] (fz_PC A D (fz_tys k) (fz_WC k q f pa v ++ [(o, .inl (k 5, 1, .inr (.inl g)))]))) (fz_QI D A (fun (u : (Nat → Int64)) => [(o, .inl (k 5, 1, .inr (.inl u)))]) (fun (r : Int32) (u : (Nat → Int64)) => (r = 1 ∧ True))) (fz_XC (fun _ => False) A) 1 6 A := by
  refine fz_ofH (by decide +kernel) (Nat.le_of_ble_eq_true rfl) ?_
  intro p e s m below meth c hx hb hr hml hown hlocks hts htab hA hP hK hD hG hS ls hl
  have hown : s.vm.findClass RL = some m.cls := hown
  have S0 : CallFix p m c cL_text 4 s [.ref (q 31), .int p0, .ref o].toArray (Cond.codeWith yL_text cL_text 4 (some .int) [(0, 9, 12, 13)] :: fz_WA) RL := ⟨hx, hb, hml, hown, hts⟩
  have hl : lv_has ls 4 [(0, .ref (q 31)), (1, .int p0), (2, .ref o)] := hl
  refine lv_aload_n hx hb dL_text_0 rfl (lv_at hl 2 rfl) ?_
  refine lv_iconst (v := 0) hx hb dL_text_1 (by decide) ?_
  refine lv_aload_n hx hb dL_text_2 rfl (lv_at hl 0 rfl) ?_
  refine lv_iload_n hx hb dL_text_3 rfl (lv_at hl 1 rfl) ?_
  have hPc : va_P D vwCl (fz_WC k q f pa v) s.heap := fz_left hP
  have hDc : va_D (va_A (fz_WC k q f pa v) s.heap.size) (fz_WC k q f pa v) := (fz_leftD hD).self
  have hFc := va_free (wc := (fz_WC k q f pa v)) hD hS hA [0, 1, 2, 3, 4, 5, 6, 7, 8, 9, 10, 11, 12, 13, 14, 15, 16, 17, 18, 19, 20, 21, 22, 23, 24, 25, 26, 27, 28, 29, 30, 31, 32, 33, 34, 35, 36, 37] rfl
  refine fz_hVi (As := [.int p0]) (rest := [.int 0, .ref o]) S0 (c_text l hl0 (va_A (fz_WC k q f pa v) s.heap.size) D k q f pa v p0 g_v_17) (fz_cwV (C := RX9) 1 hts fm_802 fm_803 fm_804 fm_805 fm_6 rfl rfl ⟨by decide, by decide, by decide +kernel⟩ ⟨Nat.le_of_ble_eq_true rfl, Nat.le_of_ble_eq_true rfl⟩) (va_recv hK hP (ci := 13) (q0 := 31) rfl rfl) hFc (fun a9 h9 => Or.inr h9) hG hS hPc hK hDc rfl hl.1 rfl (Nat.le_of_ble_eq_true rfl) dL_text_4 ⟨Nat.le_of_ble_eq_true rfl, Nat.le_of_ble_eq_true rfl⟩ (fun E9 ce q9 H locs hE hz1 hk1 hS h1 h2 h3 => ?_) (fun r u H locs hw hz1 hk1 hP1 hS => ?_)
  · obtain ⟨hPo, hDo⟩ := va_join (wr := [(o, .inl (k 5, 1, .inr (.inl g)))]) (w1 := []) hP hD [0, 1, 2, 3, 4, 5, 6, 7, 8, 9, 10, 11, 12, 13, 14, 15, 16, 17, 18, 19, 20, 21, 22, 23, 24, 25, 26, 27, 28, 29, 30, 31, 32, 33, 34, 35, 36, 37] [38] rfl rfl (by decide) (by decide) hk1 hFc fz_nil fz_nilD
    have hPo : va_P D vwCl [(o, .inl (k 5, 1, .inr (.inl g)))] H := hPo
    rcases hE with ⟨rfl, hc9⟩
    · refine vx_catch (own := RL) (name := "java/lang/IndexOutOfBoundsException") hown [] ⟨0, 9, 12, 13⟩ [] (htab.trans rfl) (fun z hz => by cases hz) (by decide) (by decide) (hts _ (fz_m fm_654)) (fz_cast hG fm_653) h1 h2 h3 ?_
      refine lv_astore_n (lv' := [(3, .ref q9), (0, .ref (q 31)), (1, .int p0), (2, .ref o)]) hx hb dL_text_12 rfl hl (by decide) rfl (fun ls hl => ?_)
      refine lv_iconst (v := 1) hx hb dL_text_13 (by decide) ?_
      exact vx_ret (fz_iret hx hb hr rfl hlocks hS dL_text_14 g ⟨rfl, trivial⟩ hPo (Nat.le_of_ble_eq_true rfl) (Nat.le_of_ble_eq_true rfl))
  · obtain ⟨hPo, hDo⟩ := va_join (wr := [(o, .inl (k 5, 1, .inr (.inl g)))]) (w1 := []) hP hD [0, 1, 2, 3, 4, 5, 6, 7, 8, 9, 10, 11, 12, 13, 14, 15, 16, 17, 18, 19, 20, 21, 22, 23, 24, 25, 26, 27, 28, 29, 30, 31, 32, 33, 34, 35, 36, 37] [38] rfl rfl (by decide) (by decide) hk1 hFc hP1 fz_nilD
    have hPo : va_P D vwCl [(o, .inl (k 5, 1, .inr (.inl g)))] H := hPo
    have hDo : va_D A [(o, .inl (k 5, 1, .inr (.inl g)))] := hDo
    exact (show False from hw).elim

set_option maxHeartbeats 4000000 in
set_option maxRecDepth 100000 in
theorem h_undo (l : Launch) (hl0 : l.stackTraces = false) (A : Nat → Prop) (D : va_G) (k : Nat → ClassId) (q : Nat → Nat) (f : Nat → Nat → Int32) (pa : Nat → Option Nat) (v : Nat → Int32) (o : Nat) (g : (Nat → Int64)) (g_v_9 : v 9 = 0) (g_pa_0 : pa 0 = none) (g_v_10 : v 10 = 0) :
    vx_Met l yL_undo (Cond.codeWith yL_undo cL_undo 3 (some .int) [(0, 8, 11, 17)] :: fz_WA) { frames := 24, cells := 1, slots := 6, locals := 320 } (va_Pc [.ref (q 31), .ref o] (fz_PC A D (fz_tys k) (fz_WC k q f pa v ++ [(o, .inl (k 5, 1, .inr (.inl g)))]))) (fz_QI D A (fun (u : (Nat → Int64)) => [(o, .inl (k 5, 1, .inr (.inl u)))]) (fun (r : Int32) (u : (Nat → Int64)) => (r = 1 ∧ True))) (fz_XC (fun _ => False) A) 1 6 A := by
  refine fz_ofH (by decide +kernel) (Nat.le_of_ble_eq_true rfl) ?_
  intro p e s m below meth c hx hb hr hml hown hlocks hts htab hA hP hK hD hG hS ls hl
  have hown : s.vm.findClass RL = some m.cls := hown
  have S0 : CallFix p m c cL_undo 3 s [.ref (q 31), .ref o].toArray (Cond.codeWith yL_undo cL_undo 3 (some .int) [(0, 8, 11, 17)] :: fz_WA) RL := ⟨hx, hb, hml, hown, hts⟩
  have hl : lv_has ls 3 [(0, .ref (q 31)), (1, .ref o)] := hl
  refine lv_aload_n hx hb dL_undo_0 rfl (lv_at hl 1 rfl) ?_
  refine lv_iconst (v := 0) hx hb dL_undo_1 (by decide) ?_
  refine lv_aload_n hx hb dL_undo_2 rfl (lv_at hl 0 rfl) ?_
  have hPc : va_P D vwCl (fz_WC k q f pa v) s.heap := fz_left hP
  have hDc : va_D (va_A (fz_WC k q f pa v) s.heap.size) (fz_WC k q f pa v) := (fz_leftD hD).self
  have hFc := va_free (wc := (fz_WC k q f pa v)) hD hS hA [0, 1, 2, 3, 4, 5, 6, 7, 8, 9, 10, 11, 12, 13, 14, 15, 16, 17, 18, 19, 20, 21, 22, 23, 24, 25, 26, 27, 28, 29, 30, 31, 32, 33, 34, 35, 36, 37] rfl
  refine fz_hVi (As := []) (rest := [.int 0, .ref o]) S0 (c_undo l hl0 (va_A (fz_WC k q f pa v) s.heap.size) D k q f pa v g_v_9 g_pa_0 g_v_10) (fz_cwV (C := RX9) 0 hts fm_807 fm_808 fm_809 fm_810 fm_6 rfl rfl ⟨by decide, by decide, by decide +kernel⟩ ⟨Nat.le_of_ble_eq_true rfl, Nat.le_of_ble_eq_true rfl⟩) (va_recv hK hP (ci := 13) (q0 := 31) rfl rfl) hFc (fun a9 h9 => Or.inr h9) hG hS hPc hK hDc rfl hl.1 rfl (Nat.le_of_ble_eq_true rfl) dL_undo_3 ⟨Nat.le_of_ble_eq_true rfl, Nat.le_of_ble_eq_true rfl⟩ (fun E9 ce q9 H locs hE hz1 hk1 hS h1 h2 h3 => ?_) (fun r u H locs hw hz1 hk1 hP1 hS => ?_)
  · obtain ⟨hPo, hDo⟩ := va_join (wr := [(o, .inl (k 5, 1, .inr (.inl g)))]) (w1 := []) hP hD [0, 1, 2, 3, 4, 5, 6, 7, 8, 9, 10, 11, 12, 13, 14, 15, 16, 17, 18, 19, 20, 21, 22, 23, 24, 25, 26, 27, 28, 29, 30, 31, 32, 33, 34, 35, 36, 37] [38] rfl rfl (by decide) (by decide) hk1 hFc fz_nil fz_nilD
    have hPo : va_P D vwCl [(o, .inl (k 5, 1, .inr (.inl g)))] H := hPo
    rcases hE with ⟨rfl, hc9⟩
    · refine vx_catch (own := RL) (name := "java/lang/IllegalStateException") hown [] ⟨0, 8, 11, 17⟩ [] (htab.trans rfl) (fun z hz => by cases hz) (by decide) (by decide) (hts _ (fz_m fm_718)) (fz_cast hG fm_717) h1 h2 h3 ?_
      refine lv_astore_n (lv' := [(2, .ref q9), (0, .ref (q 31)), (1, .ref o)]) hx hb dL_undo_11 rfl hl (by decide) rfl (fun ls hl => ?_)
      refine lv_iconst (v := 1) hx hb dL_undo_12 (by decide) ?_
      exact vx_ret (fz_iret hx hb hr rfl hlocks hS dL_undo_13 g ⟨rfl, trivial⟩ hPo (Nat.le_of_ble_eq_true rfl) (Nat.le_of_ble_eq_true rfl))
  · obtain ⟨hPo, hDo⟩ := va_join (wr := [(o, .inl (k 5, 1, .inr (.inl g)))]) (w1 := []) hP hD [0, 1, 2, 3, 4, 5, 6, 7, 8, 9, 10, 11, 12, 13, 14, 15, 16, 17, 18, 19, 20, 21, 22, 23, 24, 25, 26, 27, 28, 29, 30, 31, 32, 33, 34, 35, 36, 37] [38] rfl rfl (by decide) (by decide) hk1 hFc hP1 fz_nilD
    have hPo : va_P D vwCl [(o, .inl (k 5, 1, .inr (.inl g)))] H := hPo
    have hDo : va_D A [(o, .inl (k 5, 1, .inr (.inl g)))] := hDo
    exact (show False from hw).elim

set_option maxHeartbeats 4000000 in
set_option maxRecDepth 100000 in
theorem h_restore (l : Launch) (hl0 : l.stackTraces = false) (A : Nat → Prop) (D : va_G) (k : Nat → ClassId) (q : Nat → Nat) (f : Nat → Nat → Int32) (pa : Nat → Option Nat) (v : Nat → Int32) (o : Nat) (g : (Nat → Int64)) (g_pa_8 : pa 8 = none) :
    vx_Met l yL_restore (Cond.codeWith yL_restore cL_restore 3 (some .int) [(0, 8, 11, 17)] :: fz_WA) { frames := 24, cells := 1, slots := 6, locals := 320 } (va_Pc [.ref (q 31), .ref o] (fz_PC A D (fz_tys k) (fz_WC k q f pa v ++ [(o, .inl (k 5, 1, .inr (.inl g)))]))) (fz_QI D A (fun (u : (Nat → Int64)) => [(o, .inl (k 5, 1, .inr (.inl u)))]) (fun (r : Int32) (u : (Nat → Int64)) => (r = 1 ∧ True))) (fz_XC (fun _ => False) A) 1 6 A := by
  refine fz_ofH (by decide +kernel) (Nat.le_of_ble_eq_true rfl) ?_
  intro p e s m below meth c hx hb hr hml hown hlocks hts htab hA hP hK hD hG hS ls hl
  have hown : s.vm.findClass RL = some m.cls := hown
  have S0 : CallFix p m c cL_restore 3 s [.ref (q 31), .ref o].toArray (Cond.codeWith yL_restore cL_restore 3 (some .int) [(0, 8, 11, 17)] :: fz_WA) RL := ⟨hx, hb, hml, hown, hts⟩
  have hl : lv_has ls 3 [(0, .ref (q 31)), (1, .ref o)] := hl
  refine lv_aload_n hx hb dL_restore_0 rfl (lv_at hl 1 rfl) ?_
  refine lv_iconst (v := 0) hx hb dL_restore_1 (by decide) ?_
  refine lv_aload_n hx hb dL_restore_2 rfl (lv_at hl 0 rfl) ?_
  have hPc : va_P D vwCl (fz_WC k q f pa v) s.heap := fz_left hP
  have hDc : va_D (va_A (fz_WC k q f pa v) s.heap.size) (fz_WC k q f pa v) := (fz_leftD hD).self
  have hFc := va_free (wc := (fz_WC k q f pa v)) hD hS hA [0, 1, 2, 3, 4, 5, 6, 7, 8, 9, 10, 11, 12, 13, 14, 15, 16, 17, 18, 19, 20, 21, 22, 23, 24, 25, 26, 27, 28, 29, 30, 31, 32, 33, 34, 35, 36, 37] rfl
  refine fz_hVi (As := []) (rest := [.int 0, .ref o]) S0 (c_restore l hl0 (va_A (fz_WC k q f pa v) s.heap.size) D k q f pa v g_pa_8) (fz_cwV (C := RX9) 0 hts fm_812 fm_813 fm_814 fm_815 fm_6 rfl rfl ⟨by decide, by decide, by decide +kernel⟩ ⟨Nat.le_of_ble_eq_true rfl, Nat.le_of_ble_eq_true rfl⟩) (va_recv hK hP (ci := 13) (q0 := 31) rfl rfl) hFc (fun a9 h9 => Or.inr h9) hG hS hPc hK hDc rfl hl.1 rfl (Nat.le_of_ble_eq_true rfl) dL_restore_3 ⟨Nat.le_of_ble_eq_true rfl, Nat.le_of_ble_eq_true rfl⟩ (fun E9 ce q9 H locs hE hz1 hk1 hS h1 h2 h3 => ?_) (fun r u H locs hw hz1 hk1 hP1 hS => ?_)
  · obtain ⟨hPo, hDo⟩ := va_join (wr := [(o, .inl (k 5, 1, .inr (.inl g)))]) (w1 := []) hP hD [0, 1, 2, 3, 4, 5, 6, 7, 8, 9, 10, 11, 12, 13, 14, 15, 16, 17, 18, 19, 20, 21, 22, 23, 24, 25, 26, 27, 28, 29, 30, 31, 32, 33, 34, 35, 36, 37] [38] rfl rfl (by decide) (by decide) hk1 hFc fz_nil fz_nilD
    have hPo : va_P D vwCl [(o, .inl (k 5, 1, .inr (.inl g)))] H := hPo
    rcases hE with ⟨rfl, hc9⟩
    · refine vx_catch (own := RL) (name := "java/lang/IllegalStateException") hown [] ⟨0, 8, 11, 17⟩ [] (htab.trans rfl) (fun z hz => by cases hz) (by decide) (by decide) (hts _ (fz_m fm_718)) (fz_cast hG fm_717) h1 h2 h3 ?_
      refine lv_astore_n (lv' := [(2, .ref q9), (0, .ref (q 31)), (1, .ref o)]) hx hb dL_restore_11 rfl hl (by decide) rfl (fun ls hl => ?_)
      refine lv_iconst (v := 1) hx hb dL_restore_12 (by decide) ?_
      exact vx_ret (fz_iret hx hb hr rfl hlocks hS dL_restore_13 g ⟨rfl, trivial⟩ hPo (Nat.le_of_ble_eq_true rfl) (Nat.le_of_ble_eq_true rfl))
  · obtain ⟨hPo, hDo⟩ := va_join (wr := [(o, .inl (k 5, 1, .inr (.inl g)))]) (w1 := []) hP hD [0, 1, 2, 3, 4, 5, 6, 7, 8, 9, 10, 11, 12, 13, 14, 15, 16, 17, 18, 19, 20, 21, 22, 23, 24, 25, 26, 27, 28, 29, 30, 31, 32, 33, 34, 35, 36, 37] [38] rfl rfl (by decide) (by decide) hk1 hFc hP1 fz_nilD
    have hPo : va_P D vwCl [(o, .inl (k 5, 1, .inr (.inl g)))] H := hPo
    have hDo : va_D A [(o, .inl (k 5, 1, .inr (.inl g)))] := hDo
    exact (show False from hw).elim

theorem lw_kn {args : Array Value} {s : State} (hts : ∀ w ∈ lw_tbl, w.before args s = true) : ∃ D : va_G, ∀ (c : Nat) (q : vw_C), vwCl[c]? = some q → u_Kn s q.1 q.2.1 q.2.2 (D.1 c) (D.2 c) := by
  have hall : ∀ q ∈ vwCl, (∀ w ∈ u_ws q.1 q.2.1 q.2.2, w ∈ lw_tbl) ∧ Cond.instantiable q.1 q.2.2 ∈ lw_tbl := by decide +kernel
  have H : ∀ c : Nat, ∃ r : ClassId × (Nat → Nat), ∀ q : vw_C, vwCl[c]? = some q → u_Kn s q.1 q.2.1 q.2.2 r.1 r.2 := by
    intro c
    cases hc : vwCl[c]? with
    | none => exact ⟨(0, fun _ => 0), fun q h => nomatch h⟩
    | some q =>
      obtain ⟨h1, h2⟩ := hall q (List.mem_of_getElem? hc)
      obtain ⟨cC, iS, h⟩ := u_known hts h1 (hts _ h2)
      exact ⟨(cC, iS), fun q' h' => by cases h'; exact h⟩
  exact ⟨(fun c => (Classical.choose (H c)).1, fun c => (Classical.choose (H c)).2), fun c q h => Classical.choose_spec (H c) q h⟩
theorem lw_arr {args : Array Value} {s : State} {ty : FieldType} (h : (Cond.arrayClass ty).before args s = true) (hp : ∀ C, ty ≠ .object C) : ∃ c : ClassId, ArrOfT s c ty ∧ va_RA s c ty := by
  obtain ⟨c, kc, comp, h1, h2, h3⟩ := Cond.arrayClass_spec h
  refine ⟨c, fun n z => ⟨(fun k h => by cases h), kc, h2, comp, h3⟩, ?_⟩
  cases ty <;> first | exact h1 | exact absurd rfl (hp _)
theorem lw_arrq {args : Array Value} {s : State} {C : String} (h : (Cond.arrayOver (.object C)).before args s = true) : ∃ c : ClassId, ArrOfT s c (.object C) ∧ va_RA s c (.object C) := by
  obtain ⟨comp, c, kc, h1, -, h3, h4, h5⟩ := Cond.arrayOver_spec h
  exact ⟨c, fun n z => ⟨(fun k h => by cases h), kc, h3, comp, h4⟩, kc, comp, h3, h4, h1, h5⟩
theorem lw_arrA {args : Array Value} {s : State} {ty : FieldType} (h : (Cond.arrayOver (.array ty)).before args s = true) : ∃ c : ClassId, ArrOfT s c (.array ty) ∧ va_RA s c (.array ty) := by
  obtain ⟨comp, c, kc, h1, h3, h4, h5⟩ := Cond.arrayOver_specA h
  exact ⟨c, fun n z => ⟨(fun k h => by cases h), kc, h3, comp, h4⟩, h5⟩
theorem lw_K {args : Array Value} {s : State} (hts : ∀ w ∈ lw_tbl, w.before args s = true) : ∃ (D : va_G) (k : Nat → ClassId), va_K D vwCl (fz_tys k) s := by
  obtain ⟨D, hD⟩ := lw_kn hts
  have m0 : Cond.arrayClass .int ∈ lw_tbl ∧ Cond.arrayClass .char ∈ lw_tbl ∧ Cond.arrayClass .byte ∈ lw_tbl ∧ Cond.arrayClass .long ∈ lw_tbl ∧ Cond.arrayClass .double ∈ lw_tbl ∧ Cond.arrayOver (.object "FindingAid$State") ∈ lw_tbl ∧ Cond.arrayOver (.array .int) ∈ lw_tbl := by decide +kernel
  obtain ⟨m1, m2, m3, m4, m5, m6, m7⟩ := m0
  obtain ⟨c0, a0⟩ := lw_arr (hts _ m1) (fun C h => by cases h)
  obtain ⟨c1, a1⟩ := lw_arr (hts _ m2) (fun C h => by cases h)
  obtain ⟨c2, a2⟩ := lw_arr (hts _ m3) (fun C h => by cases h)
  obtain ⟨c3, a3⟩ := lw_arrq (hts _ m6)
  obtain ⟨c4, a4⟩ := lw_arrA (hts _ m7)
  obtain ⟨c5, a5⟩ := lw_arr (hts _ m4) (fun C h => by cases h)
  obtain ⟨c6, a6⟩ := lw_arr (hts _ m5) (fun C h => by cases h)
  refine ⟨D, fun j => ([c0, c1, c2, c3, c4, c5, c6] : List ClassId).getD j 0, hD, fun j q hq => ?_⟩
  have hj : j < 7 := (List.getElem?_eq_some_iff.mp hq).1
  rcases (show j = 0 ∨ j = 1 ∨ j = 2 ∨ j = 3 ∨ j = 4 ∨ j = 5 ∨ j = 6 by omega) with rfl | rfl | rfl | rfl | rfl | rfl | rfl
  · cases (Option.some.inj (show some (c0, FieldType.int) = some q from hq)); exact a0
  · cases (Option.some.inj (show some (c1, FieldType.char) = some q from hq)); exact a1
  · cases (Option.some.inj (show some (c2, FieldType.byte) = some q from hq)); exact a2
  · cases (Option.some.inj (show some (c3, FieldType.object "FindingAid$State") = some q from hq)); exact a3
  · cases (Option.some.inj (show some (c4, FieldType.array .int) = some q from hq)); exact a4
  · cases (Option.some.inj (show some (c5, FieldType.long) = some q from hq)); exact a5
  · cases (Option.some.inj (show some (c6, FieldType.double) = some q from hq)); exact a6
theorem lw_tx {args : Array Value} {s : State} (hts : ∀ w ∈ lw_tbl, w.before args s = true) (hgv : (Jvm.Cond.and given_1 narrow_1).before args s = true) : ∀ q ∈ fz_TX, ∃ sa, vk_R RX9 q.1 q.2 sa s := by
  have h0 : ∀ q ∈ fz_TX, Cond.stringRef RX9 q.1 q.2 ∈ lw_tbl := by decide +kernel
  have hs := flat_of_before _ hgv
  have hq1 : ∀ q ∈ fz_TX, (Cond.exactly (.string RX9 q.1) "java/lang/String").before args s = true := by
    intro q hq
    refine hs _ ?_
    revert q
    decide +kernel
  intro q hq
  obtain ⟨a, c, cA, kA, q1, -⟩ := Cond.exactly_spec (args := args) (first := s) (o := none) (s := s) (idx := []) (t := .string RX9 q.1) (cls := "java/lang/String") (hq1 q hq)
  exact ⟨a, vk_R.of (hts _ (h0 q hq)) q1⟩
theorem lw_nc {args : Array Value} {s : State} (hgv : (Jvm.Cond.and given_1 narrow_1).before args s = true) : ∀ q ∈ fz_NC, va_Nc q.1 q.2 s := by
  have hs := flat_of_before _ hgv
  intro q hq
  refine va_Nc.of (args := args) (hs _ ?_)
  revert q
  decide +kernel
theorem lw_GS {p : Program} {s : State} {m : MethodId} {meth : Method} {c : Code} {b L : Nat} {xs : Nat → Int32} (C0 : lw_At p s m meth c b L xs) : fz_GS (fun q : Nat => s.heap.size ≤ q) s := by
  obtain ⟨hx, hb, hr, hml, hown, hts, hX, hbl, hlocks, hgv⟩ := C0
  have hs := flat_of_before _ hgv
  have hA : ∀ a : Nat, a < s.heap.size → ¬ (fun q : Nat => s.heap.size ≤ q) a := fun a h => Nat.not_le.mpr h
  have w0 : Cond.laysStatic Bundle.tN "UNASSIGNED_STACK" Bundle.steD ∈ lw_tbl ∧ Cond.laysStatic Bundle.tN "SUPPRESSED_SENTINEL" Bundle.listD ∈ lw_tbl ∧ Cond.initialized Bundle.tN ∈ lw_tbl ∧ Cond.laysStatic "java/lang/String" "COMPACT_STRINGS" "Z" ∈ lw_tbl ∧ Cond.initialized "java/lang/String" ∈ lw_tbl := by decide +kernel
  obtain ⟨w1, w2, w3, w4, w5⟩ := w0
  refine ⟨vx_Zqof (hts _ w1) (hts _ w3) (hs _ (by decide +kernel)) hA, vx_Zqof (hts _ w2) (hts _ w3) (hs _ (by decide +kernel)) hA, va_Zof (hts _ w4) (hts _ w5) (va_eqi (hs _ (by decide +kernel))) hA, lw_tx hts hgv, fun w hw hk => va_Nw.of (fz_kT hk) (hts w hw), lw_nc hgv, fun ty hty => by
    have h := hts _ hty
    first | exact h | simpa only [Cond.before, Cond.holds, Cond.value] using h⟩
theorem lw_split (z : Int32) : (z.toInt < 0 ∨ 35 < z.toInt) ∨ ∃ j : Nat, j < 36 ∧ z = Int32.ofNat j := by
  by_cases h0 : z.toInt < 0
  · exact Or.inl (Or.inl h0)
  · by_cases h1 : 35 < z.toInt
    · exact Or.inl (Or.inr h1)
    · refine Or.inr ⟨z.toInt.toNat, by omega, ?_⟩
      have hn : z.toInt.toNat < 36 := by omega
      have e1 : ((z.toInt.toNat : Nat) : Int) = z.toInt := Int.toNat_of_nonneg (Int.not_lt.mp h0)
      have key : ∀ n : Nat, n < 36 → Int32.ofInt (n : Int) = Int32.ofNat n := by decide +kernel
      have e2 := key _ hn
      rw [e1] at e2
      exact (Int32.ofInt_toInt z).symm.trans e2
set_option maxHeartbeats 8000000 in
set_option maxRecDepth 100000 in
theorem lw_head {p : Program} {l : Launch} {e : Env} {s : State} {m : MethodId} {below : List Frame} {meth : Method} {c : Code} {D : va_G} {b L : Nat} {xs : Nat → Int32} (hl0 : l.stackTraces = false) (hL : L ≤ 6) (C0 : lw_At p s m meth c b L xs) (hG : fz_GS (fun q : Nat => s.heap.size ≤ q) s) (k : Nat → ClassId) (hK : va_K D vwCl (fz_tys k) s) (q q2 : Nat → Nat) (f f2 : Nat → Nat → Int32) (pa pa2 : Nat → Option Nat) (v v2 : Nat → Int32) (o o2 : Nat) (g : Nat → Int64) (g2 : Nat → UInt64) (hF : fz_LF q2 f pa v f2 pa2 v2) (H : Heap) (locs : List Loc) (hP : va_P D vwCl (fz_WC k q f pa v ++ ([(o, .inl (k 5, 1, .inr (.inl g)))] ++ ([(o2, .inl (k 6, 1, .inr (.inr (.inr (.inl g2)))))] ++ (fz_WM k q2 f2 pa2 v2)))) H) (hD : va_D (fun q : Nat => s.heap.size ≤ q) (fz_WC k q f pa v ++ ([(o, .inl (k 5, 1, .inr (.inl g)))] ++ ([(o2, .inl (k 6, 1, .inr (.inr (.inr (.inl g2)))))] ++ (fz_WM k q2 f2 pa2 v2))))) (hS : va_S (fun q : Nat => s.heap.size ≤ q) s.heap H locs) (ls : Array Slot) (hl : lv_has ls 9 [(5, .int 0), (4, .ref o2), (3, .ref o), (2, .ref (q2 0)), (1, .ref (q 31)), (0, .ref b)]) :
    W p l e room_1 s m #[Value.ref b] below meth c H locs 2000 400000 (lw_Z below #[Value.ref b] s) (F0 m 28 ls []) := by
  obtain ⟨hx, hb, hr, hml, hown, hts, hX, hbl, hlocks, hgv⟩ := id C0
  have hbA : ¬ (fun q : Nat => s.heap.size ≤ q) b := Nat.not_le.mpr hbl
  by_cases e6 : L = 6
  · subst e6
    refine lv_iload hx hb dL_law_28 (lv_at hl 0 rfl) ?_
    refine lv_aload_n hx hb dL_law_30 rfl (lv_at hl 5 rfl) ?_
    refine va_slen hx hb hX hbl hbA hS dL_law_31 ?_
    refine fz_I (y := 6) (by decide) ?_
    refine lv_bipush (v := 6) hx hb dL_law_32 (by decide) ?_
    refine lv_isub hx hb dL_law_34 ?_
    refine fz_I (y := 0) (by decide) ?_
    refine lv_icmp_gt (tgt := 2463) hx hb dL_law_35 (by decide) (fun c9 => absurd c9 (by decide)) (fun c9 => ?_)
    refine lv_aload_n hx hb dL_law_38 rfl (lv_at hl 5 rfl) ?_
    refine lv_iload hx hb dL_law_39 (lv_at hl 0 rfl) ?_
    refine va_sld hx hb hX hbl hbA hS (fz_vin (by decide)) dL_law_41 ?_
    refine lv_bipush (v := 63) hx hb dL_law_42 (by decide) ?_
    refine lv_iand hx hb dL_law_44 ?_
    obtain ⟨z, hz⟩ : ∃ z, z = xs (0 : Int32).toNatClampNeg &&& 63 := ⟨_, rfl⟩
    refine fz_I (y := z) hz.symm ?_
    rcases lw_split z with h9 | ⟨j, hj, rfl⟩
    · refine lv_tableOut (tgt := 2457) hx hb dL_law_45 h9 (by decide) ?_
      exact lw_tail rfl C0 (Nat.le_of_ble_eq_true rfl) (Nat.le_of_ble_eq_true rfl) hS ls (lv_sub hl [0, 5] rfl)
    · rcases (show j = 0 ∨ j = 1 ∨ j = 2 ∨ j = 3 ∨ j = 4 ∨ j = 5 ∨ j = 6 ∨ j = 7 ∨ j = 8 ∨ j = 9 ∨ j = 10 ∨ j = 11 ∨ j = 12 ∨ j = 13 ∨ j = 14 ∨ j = 15 ∨ j = 16 ∨ j = 17 ∨ j = 18 ∨ j = 19 ∨ j = 20 ∨ j = 21 ∨ j = 22 ∨ j = 23 ∨ j = 24 ∨ j = 25 ∨ j = 26 ∨ j = 27 ∨ j = 28 ∨ j = 29 ∨ j = 30 ∨ j = 31 ∨ j = 32 ∨ j = 33 ∨ j = 34 ∨ j = 35 by omega) with rfl | rfl | rfl | rfl | rfl | rfl | rfl | rfl | rfl | rfl | rfl | rfl | rfl | rfl | rfl | rfl | rfl | rfl | rfl | rfl | rfl | rfl | rfl | rfl | rfl | rfl | rfl | rfl | rfl | rfl | rfl | rfl | rfl | rfl | rfl | rfl
      · exact lv_tableIn (off := 159) (tgt := 204) hx hb dL_law_45 (by decide) (by decide) rfl (by decide) (lw_case0 hl0 rfl C0 hG k hK q q2 f f2 pa pa2 v v2 o o2 g g2 hF H locs hP hD hS ls hl)
      · exact lv_tableIn (off := 263) (tgt := 308) hx hb dL_law_45 (by decide) (by decide) rfl (by decide) (lw_case1 hl0 rfl C0 hG k hK q q2 f f2 pa pa2 v v2 o o2 g g2 hF H locs hP hD hS ls hl)
      · exact lv_tableIn (off := 319) (tgt := 364) hx hb dL_law_45 (by decide) (by decide) rfl (by decide) (lw_case2 hl0 rfl C0 hG k hK q q2 f f2 pa pa2 v v2 o o2 g g2 hF H locs hP hD hS ls hl)
      · exact lv_tableIn (off := 387) (tgt := 432) hx hb dL_law_45 (by decide) (by decide) rfl (by decide) (lw_case3 hl0 rfl C0 hG k hK q q2 f f2 pa pa2 v v2 o o2 g g2 hF H locs hP hD hS ls hl)
      · exact lv_tableIn (off := 455) (tgt := 500) hx hb dL_law_45 (by decide) (by decide) rfl (by decide) (lw_case4 hl0 rfl C0 hG k hK q q2 f f2 pa pa2 v v2 o o2 g g2 hF H locs hP hD hS ls hl)
      · exact lv_tableIn (off := 523) (tgt := 568) hx hb dL_law_45 (by decide) (by decide) rfl (by decide) (lw_case5 hl0 rfl C0 hG k hK q q2 f f2 pa pa2 v v2 o o2 g g2 hF H locs hP hD hS ls hl)
      · exact lv_tableIn (off := 603) (tgt := 648) hx hb dL_law_45 (by decide) (by decide) rfl (by decide) (lw_case6 hl0 rfl C0 hG k hK q q2 f f2 pa pa2 v v2 o o2 g g2 hF H locs hP hD hS ls hl)
      · exact lv_tableIn (off := 683) (tgt := 728) hx hb dL_law_45 (by decide) (by decide) rfl (by decide) (lw_case7 hl0 rfl C0 hG k hK q q2 f f2 pa pa2 v v2 o o2 g g2 hF H locs hP hD hS ls hl)
      · exact lv_tableIn (off := 751) (tgt := 796) hx hb dL_law_45 (by decide) (by decide) rfl (by decide) (lw_case8 hl0 rfl C0 hG k hK q q2 f f2 pa pa2 v v2 o o2 g g2 hF H locs hP hD hS ls hl)
      · exact lv_tableIn (off := 819) (tgt := 864) hx hb dL_law_45 (by decide) (by decide) rfl (by decide) (lw_case9 hl0 rfl C0 hG k hK q q2 f f2 pa pa2 v v2 o o2 g g2 hF H locs hP hD hS ls hl)
      · exact lv_tableIn (off := 875) (tgt := 920) hx hb dL_law_45 (by decide) (by decide) rfl (by decide) (lw_case10 hl0 rfl C0 hG k hK q q2 f f2 pa pa2 v v2 o o2 g g2 hF H locs hP hD hS ls hl)
      · exact lv_tableIn (off := 931) (tgt := 976) hx hb dL_law_45 (by decide) (by decide) rfl (by decide) (lw_case11 hl0 rfl C0 hG k hK q q2 f f2 pa pa2 v v2 o o2 g g2 hF H locs hP hD hS ls hl)
      · exact lv_tableIn (off := 999) (tgt := 1044) hx hb dL_law_45 (by decide) (by decide) rfl (by decide) (lw_case12 hl0 rfl C0 hG k hK q q2 f f2 pa pa2 v v2 o o2 g g2 hF H locs hP hD hS ls hl)
      · exact lv_tableIn (off := 1055) (tgt := 1100) hx hb dL_law_45 (by decide) (by decide) rfl (by decide) (lw_case13 hl0 rfl C0 hG k hK q q2 f f2 pa pa2 v v2 o o2 g g2 hF H locs hP hD hS ls hl)
      · exact lv_tableIn (off := 1135) (tgt := 1180) hx hb dL_law_45 (by decide) (by decide) rfl (by decide) (lw_case14 hl0 rfl C0 hG k hK q q2 f f2 pa pa2 v v2 o o2 g g2 hF H locs hP hD hS ls hl)
      · exact lv_tableIn (off := 1203) (tgt := 1248) hx hb dL_law_45 (by decide) (by decide) rfl (by decide) (lw_case15 hl0 rfl C0 hG k hK q q2 f f2 pa pa2 v v2 o o2 g g2 hF H locs hP hD hS ls hl)
      · exact lv_tableIn (off := 1271) (tgt := 1316) hx hb dL_law_45 (by decide) (by decide) rfl (by decide) (lw_case16 hl0 rfl C0 hG k hK q q2 f f2 pa pa2 v v2 o o2 g g2 hF H locs hP hD hS ls hl)
      · exact lv_tableIn (off := 1339) (tgt := 1384) hx hb dL_law_45 (by decide) (by decide) rfl (by decide) (lw_case17 hl0 rfl C0 hG k hK q q2 f f2 pa pa2 v v2 o o2 g g2 hF H locs hP hD hS ls hl)
      · exact lv_tableIn (off := 1407) (tgt := 1452) hx hb dL_law_45 (by decide) (by decide) rfl (by decide) (lw_case18 hl0 rfl C0 hG k hK q q2 f f2 pa pa2 v v2 o o2 g g2 hF H locs hP hD hS ls hl)
      · exact lv_tableIn (off := 1475) (tgt := 1520) hx hb dL_law_45 (by decide) (by decide) rfl (by decide) (lw_case19 hl0 rfl C0 hG k hK q q2 f f2 pa pa2 v v2 o o2 g g2 hF H locs hP hD hS ls hl)
      · exact lv_tableIn (off := 1543) (tgt := 1588) hx hb dL_law_45 (by decide) (by decide) rfl (by decide) (lw_case20 hl0 rfl C0 hG k hK q q2 f f2 pa pa2 v v2 o o2 g g2 hF H locs hP hD hS ls hl)
      · exact lv_tableIn (off := 1599) (tgt := 1644) hx hb dL_law_45 (by decide) (by decide) rfl (by decide) (lw_case21 hl0 rfl C0 hG k hK q q2 f f2 pa pa2 v v2 o o2 g g2 hF H locs hP hD hS ls hl)
      · exact lv_tableIn (off := 1679) (tgt := 1724) hx hb dL_law_45 (by decide) (by decide) rfl (by decide) (lw_case22 hl0 rfl C0 hG k hK q q2 f f2 pa pa2 v v2 o o2 g g2 hF H locs hP hD hS ls hl)
      · exact lv_tableIn (off := 1747) (tgt := 1792) hx hb dL_law_45 (by decide) (by decide) rfl (by decide) (lw_case23 hl0 rfl C0 hG k hK q q2 f f2 pa pa2 v v2 o o2 g g2 hF H locs hP hD hS ls hl)
      · exact lv_tableIn (off := 1803) (tgt := 1848) hx hb dL_law_45 (by decide) (by decide) rfl (by decide) (lw_case24 hl0 rfl C0 hG k hK q q2 f f2 pa pa2 v v2 o o2 g g2 hF H locs hP hD hS ls hl)
      · exact lv_tableIn (off := 1816) (tgt := 1861) hx hb dL_law_45 (by decide) (by decide) rfl (by decide) (lw_case25 hl0 rfl C0 hG k hK q q2 f f2 pa pa2 v v2 o o2 g g2 hF H locs hP hD hS ls hl)
      · exact lv_tableIn (off := 1872) (tgt := 1917) hx hb dL_law_45 (by decide) (by decide) rfl (by decide) (lw_case26 hl0 rfl C0 hG k hK q q2 f f2 pa pa2 v v2 o o2 g g2 hF H locs hP hD hS ls hl)
      · exact lv_tableIn (off := 1940) (tgt := 1985) hx hb dL_law_45 (by decide) (by decide) rfl (by decide) (lw_case27 hl0 rfl C0 hG k hK q q2 f f2 pa pa2 v v2 o o2 g g2 hF H locs hP hD hS ls hl)
      · exact lv_tableIn (off := 2017) (tgt := 2062) hx hb dL_law_45 (by decide) (by decide) rfl (by decide) (lw_case28 hl0 rfl C0 hG k hK q q2 f f2 pa pa2 v v2 o o2 g g2 hF H locs hP hD hS ls hl)
      · exact lv_tableIn (off := 2085) (tgt := 2130) hx hb dL_law_45 (by decide) (by decide) rfl (by decide) (lw_case29 hl0 rfl C0 hG k hK q q2 f f2 pa pa2 v v2 o o2 g g2 hF H locs hP hD hS ls hl)
      · exact lv_tableIn (off := 2143) (tgt := 2188) hx hb dL_law_45 (by decide) (by decide) rfl (by decide) (lw_case30 hl0 rfl C0 hG k hK q q2 f f2 pa pa2 v v2 o o2 g g2 hF H locs hP hD hS ls hl)
      · exact lv_tableIn (off := 2199) (tgt := 2244) hx hb dL_law_45 (by decide) (by decide) rfl (by decide) (lw_case31 hl0 rfl C0 hG k hK q q2 f f2 pa pa2 v v2 o o2 g g2 hF H locs hP hD hS ls hl)
      · exact lv_tableIn (off := 2255) (tgt := 2300) hx hb dL_law_45 (by decide) (by decide) rfl (by decide) (lw_case32 hl0 rfl C0 hG k hK q q2 f f2 pa pa2 v v2 o o2 g g2 hF H locs hP hD hS ls hl)
      · exact lv_tableIn (off := 2311) (tgt := 2356) hx hb dL_law_45 (by decide) (by decide) rfl (by decide) (lw_case33 hl0 rfl C0 hG k hK q q2 f f2 pa pa2 v v2 o o2 g g2 hF H locs hP hD hS ls hl)
      · exact lv_tableIn (off := 2355) (tgt := 2400) hx hb dL_law_45 (by decide) (by decide) rfl (by decide) (lw_case34 hl0 rfl C0 hG k hK q q2 f f2 pa pa2 v v2 o o2 g g2 hF H locs hP hD hS ls hl)
      · exact lv_tableIn (off := 2368) (tgt := 2413) hx hb dL_law_45 (by decide) (by decide) rfl (by decide) (lw_case35 hl0 rfl C0 hG k hK q q2 f f2 pa pa2 v v2 o o2 g g2 hF H locs hP hD hS ls hl)
  · rcases (show L = 0 ∨ L = 1 ∨ L = 2 ∨ L = 3 ∨ L = 4 ∨ L = 5 by omega) with rfl | rfl | rfl | rfl | rfl | rfl
    · skip
      refine lv_iload hx hb dL_law_28 (lv_at hl 0 rfl) ?_
      refine lv_aload_n hx hb dL_law_30 rfl (lv_at hl 5 rfl) ?_
      refine va_slen hx hb hX hbl hbA hS dL_law_31 ?_
      refine fz_I (y := 0) (by decide) ?_
      refine lv_bipush (v := 6) hx hb dL_law_32 (by decide) ?_
      refine lv_isub hx hb dL_law_34 ?_
      refine fz_I (y := (-6)) (by decide) ?_
      refine lv_icmp_gt (tgt := 2463) hx hb dL_law_35 (by decide) (fun c9 => ?_) (fun c9 => absurd (by decide) c9)
      exact lw_exit C0 (Nat.le_of_ble_eq_true rfl) (Nat.le_of_ble_eq_true rfl) hS ls
    · skip
      refine lv_iload hx hb dL_law_28 (lv_at hl 0 rfl) ?_
      refine lv_aload_n hx hb dL_law_30 rfl (lv_at hl 5 rfl) ?_
      refine va_slen hx hb hX hbl hbA hS dL_law_31 ?_
      refine fz_I (y := 1) (by decide) ?_
      refine lv_bipush (v := 6) hx hb dL_law_32 (by decide) ?_
      refine lv_isub hx hb dL_law_34 ?_
      refine fz_I (y := (-5)) (by decide) ?_
      refine lv_icmp_gt (tgt := 2463) hx hb dL_law_35 (by decide) (fun c9 => ?_) (fun c9 => absurd (by decide) c9)
      exact lw_exit C0 (Nat.le_of_ble_eq_true rfl) (Nat.le_of_ble_eq_true rfl) hS ls
    · skip
      refine lv_iload hx hb dL_law_28 (lv_at hl 0 rfl) ?_
      refine lv_aload_n hx hb dL_law_30 rfl (lv_at hl 5 rfl) ?_
      refine va_slen hx hb hX hbl hbA hS dL_law_31 ?_
      refine fz_I (y := 2) (by decide) ?_
      refine lv_bipush (v := 6) hx hb dL_law_32 (by decide) ?_
      refine lv_isub hx hb dL_law_34 ?_
      refine fz_I (y := (-4)) (by decide) ?_
      refine lv_icmp_gt (tgt := 2463) hx hb dL_law_35 (by decide) (fun c9 => ?_) (fun c9 => absurd (by decide) c9)
      exact lw_exit C0 (Nat.le_of_ble_eq_true rfl) (Nat.le_of_ble_eq_true rfl) hS ls
    · skip
      refine lv_iload hx hb dL_law_28 (lv_at hl 0 rfl) ?_
      refine lv_aload_n hx hb dL_law_30 rfl (lv_at hl 5 rfl) ?_
      refine va_slen hx hb hX hbl hbA hS dL_law_31 ?_
      refine fz_I (y := 3) (by decide) ?_
      refine lv_bipush (v := 6) hx hb dL_law_32 (by decide) ?_
      refine lv_isub hx hb dL_law_34 ?_
      refine fz_I (y := (-3)) (by decide) ?_
      refine lv_icmp_gt (tgt := 2463) hx hb dL_law_35 (by decide) (fun c9 => ?_) (fun c9 => absurd (by decide) c9)
      exact lw_exit C0 (Nat.le_of_ble_eq_true rfl) (Nat.le_of_ble_eq_true rfl) hS ls
    · skip
      refine lv_iload hx hb dL_law_28 (lv_at hl 0 rfl) ?_
      refine lv_aload_n hx hb dL_law_30 rfl (lv_at hl 5 rfl) ?_
      refine va_slen hx hb hX hbl hbA hS dL_law_31 ?_
      refine fz_I (y := 4) (by decide) ?_
      refine lv_bipush (v := 6) hx hb dL_law_32 (by decide) ?_
      refine lv_isub hx hb dL_law_34 ?_
      refine fz_I (y := (-2)) (by decide) ?_
      refine lv_icmp_gt (tgt := 2463) hx hb dL_law_35 (by decide) (fun c9 => ?_) (fun c9 => absurd (by decide) c9)
      exact lw_exit C0 (Nat.le_of_ble_eq_true rfl) (Nat.le_of_ble_eq_true rfl) hS ls
    · skip
      refine lv_iload hx hb dL_law_28 (lv_at hl 0 rfl) ?_
      refine lv_aload_n hx hb dL_law_30 rfl (lv_at hl 5 rfl) ?_
      refine va_slen hx hb hX hbl hbA hS dL_law_31 ?_
      refine fz_I (y := 5) (by decide) ?_
      refine lv_bipush (v := 6) hx hb dL_law_32 (by decide) ?_
      refine lv_isub hx hb dL_law_34 ?_
      refine fz_I (y := (-1)) (by decide) ?_
      refine lv_icmp_gt (tgt := 2463) hx hb dL_law_35 (by decide) (fun c9 => ?_) (fun c9 => absurd (by decide) c9)
      exact lw_exit C0 (Nat.le_of_ble_eq_true rfl) (Nat.le_of_ble_eq_true rfl) hS ls

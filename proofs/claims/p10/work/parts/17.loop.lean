set_option maxHeartbeats 4000000 in
set_option maxRecDepth 100000 in
theorem law_statics {p : Program} {s : State} {m : MethodId} {meth : Method} {c : Code} {b L : Nat} {xs : Nat → Int32} (C0 : lw_At p s m meth c b L xs) : ∃ zz : Nat → Nat, jZ zz (fun q : Nat => s.heap.size ≤ q) s s.heap := by
  obtain ⟨hx, hb, hr, hml, hown, hts0, hX, hbl, hlocks, hgv⟩ := C0
  have hs := flat_of_before _ hgv
  have hA : ∀ a : Nat, a < s.heap.size → ¬ (fun q : Nat => s.heap.size ≤ q) a := fun a h => Nat.not_le.mpr h
  have harr0 : (Cond.arrayOf (.static "ChangeBowler$Odds" "NAME_BITS" "[I") .int).before #[Value.ref b] s = true := hs _ (by decide +kernel)
  have hlen0 := va_eqt (hs (.eq (.length (.static "ChangeBowler$Odds" "NAME_BITS" "[I")) (.int 6)) (by decide +kernel))
  have hel0 : ∀ j : Nat, j < 6 → (Term.elem (.static "ChangeBowler$Odds" "NAME_BITS" "[I") (.int (Int32.ofNat j))).eval #[Value.ref b] s none [] s = some (jbN j) := by
    intro j hj
    have hjj : j = 0 ∨ j = 1 ∨ j = 2 ∨ j = 3 ∨ j = 4 ∨ j = 5 := by omega
    rcases hjj with rfl | rfl | rfl | rfl | rfl | rfl
    · exact va_eqt (hs (.eq (.elem (.static "ChangeBowler$Odds" "NAME_BITS" "[I") (.int 0)) (.int 240)) (by decide +kernel))
    · exact va_eqt (hs (.eq (.elem (.static "ChangeBowler$Odds" "NAME_BITS" "[I") (.int 1)) (.int 15)) (by decide +kernel))
    · exact va_eqt (hs (.eq (.elem (.static "ChangeBowler$Odds" "NAME_BITS" "[I") (.int 2)) (.int 3072)) (by decide +kernel))
    · exact va_eqt (hs (.eq (.elem (.static "ChangeBowler$Odds" "NAME_BITS" "[I") (.int 3)) (.int 12288)) (by decide +kernel))
    · exact va_eqt (hs (.eq (.elem (.static "ChangeBowler$Odds" "NAME_BITS" "[I") (.int 4)) (.int 768)) (by decide +kernel))
    · exact va_eqt (hs (.eq (.elem (.static "ChangeBowler$Odds" "NAME_BITS" "[I") (.int 5)) (.int 507904)) (by decide +kernel))
  obtain ⟨t0, hv0, hT0⟩ := va_Tof (N := 6) (f := jbN) (of_decide_eq_true rfl) harr0 hlen0 hel0 hA
  have hz0 := va_Zref (hts0 (.laysStatic "ChangeBowler$Odds" "NAME_BITS" "[I") (by decide +kernel)) (hts0 (.initialized "ChangeBowler$Odds") (by decide +kernel)) hv0 hA
  have harr1 : (Cond.arrayOf (.static "ChangeBowler$Rules" "ABOVE" "[I") .int).before #[Value.ref b] s = true := hs _ (by decide +kernel)
  have hlen1 := va_eqt (hs (.eq (.length (.static "ChangeBowler$Rules" "ABOVE" "[I")) (.int 7)) (by decide +kernel))
  have hel1 : ∀ j : Nat, j < 7 → (Term.elem (.static "ChangeBowler$Rules" "ABOVE" "[I") (.int (Int32.ofNat j))).eval #[Value.ref b] s none [] s = some (jbA j) := by
    intro j hj
    have hjj : j = 0 ∨ j = 1 ∨ j = 2 ∨ j = 3 ∨ j = 4 ∨ j = 5 ∨ j = 6 := by omega
    rcases hjj with rfl | rfl | rfl | rfl | rfl | rfl | rfl
    · exact va_eqt (hs (.eq (.elem (.static "ChangeBowler$Rules" "ABOVE" "[I") (.int 0)) (.int (-1))) (by decide +kernel))
    · exact va_eqt (hs (.eq (.elem (.static "ChangeBowler$Rules" "ABOVE" "[I") (.int 1)) (.int 0)) (by decide +kernel))
    · exact va_eqt (hs (.eq (.elem (.static "ChangeBowler$Rules" "ABOVE" "[I") (.int 2)) (.int 0)) (by decide +kernel))
    · exact va_eqt (hs (.eq (.elem (.static "ChangeBowler$Rules" "ABOVE" "[I") (.int 3)) (.int 2)) (by decide +kernel))
    · exact va_eqt (hs (.eq (.elem (.static "ChangeBowler$Rules" "ABOVE" "[I") (.int 4)) (.int 1)) (by decide +kernel))
    · exact va_eqt (hs (.eq (.elem (.static "ChangeBowler$Rules" "ABOVE" "[I") (.int 5)) (.int 3)) (by decide +kernel))
    · exact va_eqt (hs (.eq (.elem (.static "ChangeBowler$Rules" "ABOVE" "[I") (.int 6)) (.int 0)) (by decide +kernel))
  obtain ⟨t1, hv1, hT1⟩ := va_Tof (N := 7) (f := jbA) (of_decide_eq_true rfl) harr1 hlen1 hel1 hA
  have hz1 := va_Zref (hts0 (.laysStatic "ChangeBowler$Rules" "ABOVE" "[I") (by decide +kernel)) (hts0 (.initialized "ChangeBowler$Rules") (by decide +kernel)) hv1 hA
  have harr2 : (Cond.arrayOf (.static "ChangeBowler$Rules" "BODIES" "[I") .int).before #[Value.ref b] s = true := hs _ (by decide +kernel)
  have hlen2 := va_eqt (hs (.eq (.length (.static "ChangeBowler$Rules" "BODIES" "[I")) (.int 28)) (by decide +kernel))
  have hel2 : ∀ j : Nat, j < 28 → (Term.elem (.static "ChangeBowler$Rules" "BODIES" "[I") (.int (Int32.ofNat j))).eval #[Value.ref b] s none [] s = some (jbB j) := by
    intro j hj
    have hjj : j = 0 ∨ j = 1 ∨ j = 2 ∨ j = 3 ∨ j = 4 ∨ j = 5 ∨ j = 6 ∨ j = 7 ∨ j = 8 ∨ j = 9 ∨ j = 10 ∨ j = 11 ∨ j = 12 ∨ j = 13 ∨ j = 14 ∨ j = 15 ∨ j = 16 ∨ j = 17 ∨ j = 18 ∨ j = 19 ∨ j = 20 ∨ j = 21 ∨ j = 22 ∨ j = 23 ∨ j = 24 ∨ j = 25 ∨ j = 26 ∨ j = 27 := by omega
    rcases hjj with rfl | rfl | rfl | rfl | rfl | rfl | rfl | rfl | rfl | rfl | rfl | rfl | rfl | rfl | rfl | rfl | rfl | rfl | rfl | rfl | rfl | rfl | rfl | rfl | rfl | rfl | rfl | rfl
    · exact va_eqt (hs (.eq (.elem (.static "ChangeBowler$Rules" "BODIES" "[I") (.int 0)) (.int 1)) (by decide +kernel))
    · exact va_eqt (hs (.eq (.elem (.static "ChangeBowler$Rules" "BODIES" "[I") (.int 1)) (.int 10)) (by decide +kernel))
    · exact va_eqt (hs (.eq (.elem (.static "ChangeBowler$Rules" "BODIES" "[I") (.int 2)) (.int 11)) (by decide +kernel))
    · exact va_eqt (hs (.eq (.elem (.static "ChangeBowler$Rules" "BODIES" "[I") (.int 3)) (.int 2)) (by decide +kernel))
    · exact va_eqt (hs (.eq (.elem (.static "ChangeBowler$Rules" "BODIES" "[I") (.int 4)) (.int 20)) (by decide +kernel))
    · exact va_eqt (hs (.eq (.elem (.static "ChangeBowler$Rules" "BODIES" "[I") (.int 5)) (.int 0)) (by decide +kernel))
    · exact va_eqt (hs (.eq (.elem (.static "ChangeBowler$Rules" "BODIES" "[I") (.int 6)) (.int 0)) (by decide +kernel))
    · exact va_eqt (hs (.eq (.elem (.static "ChangeBowler$Rules" "BODIES" "[I") (.int 7)) (.int 0)) (by decide +kernel))
    · exact va_eqt (hs (.eq (.elem (.static "ChangeBowler$Rules" "BODIES" "[I") (.int 8)) (.int 0)) (by decide +kernel))
    · exact va_eqt (hs (.eq (.elem (.static "ChangeBowler$Rules" "BODIES" "[I") (.int 9)) (.int 0)) (by decide +kernel))
    · exact va_eqt (hs (.eq (.elem (.static "ChangeBowler$Rules" "BODIES" "[I") (.int 10)) (.int 30)) (by decide +kernel))
    · exact va_eqt (hs (.eq (.elem (.static "ChangeBowler$Rules" "BODIES" "[I") (.int 11)) (.int 0)) (by decide +kernel))
    · exact va_eqt (hs (.eq (.elem (.static "ChangeBowler$Rules" "BODIES" "[I") (.int 12)) (.int 0)) (by decide +kernel))
    · exact va_eqt (hs (.eq (.elem (.static "ChangeBowler$Rules" "BODIES" "[I") (.int 13)) (.int 40)) (by decide +kernel))
    · exact va_eqt (hs (.eq (.elem (.static "ChangeBowler$Rules" "BODIES" "[I") (.int 14)) (.int 0)) (by decide +kernel))
    · exact va_eqt (hs (.eq (.elem (.static "ChangeBowler$Rules" "BODIES" "[I") (.int 15)) (.int 0)) (by decide +kernel))
    · exact va_eqt (hs (.eq (.elem (.static "ChangeBowler$Rules" "BODIES" "[I") (.int 16)) (.int 50)) (by decide +kernel))
    · exact va_eqt (hs (.eq (.elem (.static "ChangeBowler$Rules" "BODIES" "[I") (.int 17)) (.int 0)) (by decide +kernel))
    · exact va_eqt (hs (.eq (.elem (.static "ChangeBowler$Rules" "BODIES" "[I") (.int 18)) (.int 0)) (by decide +kernel))
    · exact va_eqt (hs (.eq (.elem (.static "ChangeBowler$Rules" "BODIES" "[I") (.int 19)) (.int 51)) (by decide +kernel))
    · exact va_eqt (hs (.eq (.elem (.static "ChangeBowler$Rules" "BODIES" "[I") (.int 20)) (.int 0)) (by decide +kernel))
    · exact va_eqt (hs (.eq (.elem (.static "ChangeBowler$Rules" "BODIES" "[I") (.int 21)) (.int 0)) (by decide +kernel))
    · exact va_eqt (hs (.eq (.elem (.static "ChangeBowler$Rules" "BODIES" "[I") (.int 22)) (.int 60)) (by decide +kernel))
    · exact va_eqt (hs (.eq (.elem (.static "ChangeBowler$Rules" "BODIES" "[I") (.int 23)) (.int 0)) (by decide +kernel))
    · exact va_eqt (hs (.eq (.elem (.static "ChangeBowler$Rules" "BODIES" "[I") (.int 24)) (.int 0)) (by decide +kernel))
    · exact va_eqt (hs (.eq (.elem (.static "ChangeBowler$Rules" "BODIES" "[I") (.int 25)) (.int 70)) (by decide +kernel))
    · exact va_eqt (hs (.eq (.elem (.static "ChangeBowler$Rules" "BODIES" "[I") (.int 26)) (.int 0)) (by decide +kernel))
    · exact va_eqt (hs (.eq (.elem (.static "ChangeBowler$Rules" "BODIES" "[I") (.int 27)) (.int 0)) (by decide +kernel))
  obtain ⟨t2, hv2, hT2⟩ := va_Tof (N := 28) (f := jbB) (of_decide_eq_true rfl) harr2 hlen2 hel2 hA
  have hz2 := va_Zref (hts0 (.laysStatic "ChangeBowler$Rules" "BODIES" "[I") (by decide +kernel)) (hts0 (.initialized "ChangeBowler$Rules") (by decide +kernel)) hv2 hA
  exact ⟨fun i => [t0, t1, t2].getD i 0, ⟨hz0, hT0⟩, ⟨hz1, hT1⟩, ⟨hz2, hT2⟩⟩
set_option maxHeartbeats 4000000 in
set_option maxRecDepth 100000 in
theorem law_loop {p : Program} {e : Env} {s : State} {m : MethodId} {below : List Frame} {meth : Method} {c : Code} (l : Launch) {b L : Nat} {xs : Nat → Int32} {D : va_G} {cI cL : ClassId} {ad zz : Nat → Nat} (C0 : lw_At p s m meth c b L xs) (hJ : jD ad) (hA : ∀ q, jA ad q → s.heap.size ≤ q) (hK : jK D cI cL s) (hZ : jZ zz (fun q : Nat => s.heap.size ≤ q) s s.heap) (hL : L ≤ 384) : ∀ (n : Nat) (x0 : Int32) (σ : Nat → Nat → Int32) (τ : Nat → Nat → Int64) (H : Heap) (locs : List Loc) (ls : Array Slot), 0 ≤ x0.toInt → x0.toInt ≤ (L : Int) → (L : Int) - x0.toInt < n → jAll x0.toInt σ τ → jH D cI cL ad σ τ H → va_S (fun q : Nat => s.heap.size ≤ q) s.heap H locs → lv_has ls 4 [(3, .int x0), (2, .ref (ad 55)), (1, .ref (ad 0)), (0, .ref b)] → W p l e room_1 s m #[Value.ref b] below meth c H locs 90 348600 (lw_Z below #[Value.ref b] s) (F0 m 18 ls []) := by
  have C1 := C0
  obtain ⟨hx, hb, hr, hml, hown, hts0, hX, hbl, hlocks, hgv⟩ := C0
  have hts : ∀ w ∈ wsL_law, w.before #[Value.ref b] s = true := fun w h => hts0 w (wsL_law_in w h)
  have hbA : ¬ (fun q : Nat => s.heap.size ≤ q) b := Nat.not_le.mpr hbl
  have hown : s.vm.findClass RL = some m.cls := hown
  intro n
  induction n with
  | zero => intro x0 σ τ H locs ls h0 h1 h2; exact absurd h2 (by omega)
  | succ n ih =>
  intro x0 σ τ H locs ls h0 h1 h2 hAll hP hS hl
  exact by
   refine lv_iload_n hx hb dL_law_18 rfl (lv_at hl 0 rfl) ?_
   refine lv_aload_n hx hb dL_law_19 rfl (lv_at hl 3 rfl) ?_
   refine va_slen hx hb hX hbl hbA hS dL_law_20 ?_
   refine lv_bipush (v := 6) hx hb dL_law_21 (of_decide_eq_true rfl) ?_
   refine lv_isub hx hb dL_law_23 ?_
   refine lv_topi (fun x1 ex1 => ?_)
   have hLi : (Int32.ofNat L).toInt = (L : Int) := nI_toInt (by omega)
   have tx1 : x1.toInt = (L : Int) - 6 := jsub ex1 hLi jz_6 (by omega) (by omega)
   refine lv_icmp_gt (tgt := 1363) hx hb dL_law_24 (of_decide_eq_true rfl) (fun c1 => ?_) (fun c1 => ?_)
   · exact by
      refine lv_iconst (v := 1) hx hb dL_law_1363 (of_decide_eq_true rfl) ?_
      refine va_forget (fun q hq => hS.2.2 q hq) ?_
      refine W.widen (k := 600000) (n := 7302250) (Nat.le_of_ble_eq_true rfl) (Nat.le_of_ble_eq_true rfl) ?_
      exact lw_ret hx hb hr hlocks dL_law_1364
   · have k1 := jnlt c1 tx1 (rfl : x0.toInt = x0.toInt)
     have hxL : x0.toInt + 6 ≤ (L : Int) := by omega
     have ih1 : ∀ (x1 : Int32) (σ : Nat → Nat → Int32) (τ : Nat → Nat → Int64) (H : Heap) (locs : List Loc) (ls : Array Slot), x1.toInt = x0.toInt + 6 → jAll x1.toInt σ τ → jH D cI cL ad σ τ H → va_S (fun q : Nat => s.heap.size ≤ q) s.heap H locs → lv_has ls 4 [(3, .int x1), (2, .ref (ad 55)), (1, .ref (ad 0)), (0, .ref b)] → W p l e room_1 s m #[Value.ref b] below meth c H locs 90 348600 (lw_Z below #[Value.ref b] s) (F0 m 18 ls []) := fun x1 σ τ H locs ls e1 hq hP hS hl => ih x1 σ τ H locs ls (by omega) (by omega) (by omega) hq hP hS hl
     refine lv_aload_n hx hb dL_law_27 rfl (lv_at hl 3 rfl) ?_
     refine lv_iload_n hx hb dL_law_28 rfl (lv_at hl 0 rfl) ?_
     exact by
      refine va_sld hx hb hX hbl hbA hS (jin (rfl : x0.toInt = x0.toInt) (by omega) (by omega)) dL_law_29 ?_
      refine lv_bipush (v := 63) hx hb dL_law_30 (of_decide_eq_true rfl) ?_
      refine lv_iand hx hb dL_law_32 ?_
      refine lv_topi (fun x2 ex2 => ?_)
      have gx2 : 0 ≤ x2.toInt ∧ x2.toInt ≤ 63 := jmask ex2 6 (of_decide_eq_true rfl) (of_decide_eq_true rfl)
      by_cases e0 : x2 = 0
      · refine jtopr e0 ?_
        refine lv_tableIn (off := 163) (tgt := 196) hx hb dL_law_33 (of_decide_eq_true rfl) (of_decide_eq_true rfl) (of_decide_eq_true rfl) (of_decide_eq_true rfl) ?_
        exact law_case_0 l C1 hJ hA hK hZ h0 hxL hL hS hAll hP hl ih1
      have ke0 := jne e0 (rfl : x2.toInt = x2.toInt) jz_0
      by_cases e1 : x2 = 1
      · refine jtopr e1 ?_
        refine lv_tableIn (off := 206) (tgt := 239) hx hb dL_law_33 (of_decide_eq_true rfl) (of_decide_eq_true rfl) (of_decide_eq_true rfl) (of_decide_eq_true rfl) ?_
        exact law_case_1 l C1 hJ hA hK hZ h0 hxL hL hS hAll hP hl ih1
      have ke1 := jne e1 (rfl : x2.toInt = x2.toInt) jz_1
      by_cases e2 : x2 = 2
      · refine jtopr e2 ?_
        refine lv_tableIn (off := 249) (tgt := 282) hx hb dL_law_33 (of_decide_eq_true rfl) (of_decide_eq_true rfl) (of_decide_eq_true rfl) (of_decide_eq_true rfl) ?_
        exact law_case_2 l C1 hJ hA hK hZ h0 hxL hL hS hAll hP hl ih1
      have ke2 := jne e2 (rfl : x2.toInt = x2.toInt) jz_2
      by_cases e3 : x2 = 3
      · refine jtopr e3 ?_
        refine lv_tableIn (off := 292) (tgt := 325) hx hb dL_law_33 (of_decide_eq_true rfl) (of_decide_eq_true rfl) (of_decide_eq_true rfl) (of_decide_eq_true rfl) ?_
        exact law_case_3 l C1 hJ hA hK hZ h0 hxL hL hS hAll hP hl ih1
      have ke3 := jne e3 (rfl : x2.toInt = x2.toInt) jz_3
      by_cases e4 : x2 = 4
      · refine jtopr e4 ?_
        refine lv_tableIn (off := 315) (tgt := 348) hx hb dL_law_33 (of_decide_eq_true rfl) (of_decide_eq_true rfl) (of_decide_eq_true rfl) (of_decide_eq_true rfl) ?_
        exact law_case_4 l C1 hJ hA hK hZ h0 hxL hL hS hAll hP hl ih1
      have ke4 := jne e4 (rfl : x2.toInt = x2.toInt) jz_4
      by_cases e5 : x2 = 5
      · refine jtopr e5 ?_
        refine lv_tableIn (off := 348) (tgt := 381) hx hb dL_law_33 (of_decide_eq_true rfl) (of_decide_eq_true rfl) (of_decide_eq_true rfl) (of_decide_eq_true rfl) ?_
        exact law_case_5 l C1 hJ hA hK hZ h0 hxL hL hS hAll hP hl ih1
      have ke5 := jne e5 (rfl : x2.toInt = x2.toInt) jz_5
      by_cases e6 : x2 = 6
      · refine jtopr e6 ?_
        refine lv_tableIn (off := 361) (tgt := 394) hx hb dL_law_33 (of_decide_eq_true rfl) (of_decide_eq_true rfl) (of_decide_eq_true rfl) (of_decide_eq_true rfl) ?_
        exact law_case_6 l C1 hJ hA hK hZ h0 hxL hL hS hAll hP hl ih1
      have ke6 := jne e6 (rfl : x2.toInt = x2.toInt) jz_6
      by_cases e7 : x2 = 7
      · refine jtopr e7 ?_
        refine lv_tableIn (off := 384) (tgt := 417) hx hb dL_law_33 (of_decide_eq_true rfl) (of_decide_eq_true rfl) (of_decide_eq_true rfl) (of_decide_eq_true rfl) ?_
        exact law_case_7 l C1 hJ hA hK hZ h0 hxL hL hS hAll hP hl ih1
      have ke7 := jne e7 (rfl : x2.toInt = x2.toInt) jz_7
      by_cases e8 : x2 = 8
      · refine jtopr e8 ?_
        refine lv_tableIn (off := 407) (tgt := 440) hx hb dL_law_33 (of_decide_eq_true rfl) (of_decide_eq_true rfl) (of_decide_eq_true rfl) (of_decide_eq_true rfl) ?_
        exact law_case_8 l C1 hJ hA hK hZ h0 hxL hL hS hAll hP hl ih1
      have ke8 := jne e8 (rfl : x2.toInt = x2.toInt) jz_8
      by_cases e9 : x2 = 9
      · refine jtopr e9 ?_
        refine lv_tableIn (off := 450) (tgt := 483) hx hb dL_law_33 (of_decide_eq_true rfl) (of_decide_eq_true rfl) (of_decide_eq_true rfl) (of_decide_eq_true rfl) ?_
        exact law_case_9 l C1 hJ hA hK hZ h0 hxL hL hS hAll hP hl ih1
      have ke9 := jne e9 (rfl : x2.toInt = x2.toInt) jz_9
      by_cases e10 : x2 = 10
      · refine jtopr e10 ?_
        refine lv_tableIn (off := 493) (tgt := 526) hx hb dL_law_33 (of_decide_eq_true rfl) (of_decide_eq_true rfl) (of_decide_eq_true rfl) (of_decide_eq_true rfl) ?_
        exact law_case_10 l C1 hJ hA hK hZ h0 hxL hL hS hAll hP hl ih1
      have ke10 := jne e10 (rfl : x2.toInt = x2.toInt) jz_10
      by_cases e11 : x2 = 11
      · refine jtopr e11 ?_
        refine lv_tableIn (off := 516) (tgt := 549) hx hb dL_law_33 (of_decide_eq_true rfl) (of_decide_eq_true rfl) (of_decide_eq_true rfl) (of_decide_eq_true rfl) ?_
        exact law_case_11 l C1 hJ hA hK hZ h0 hxL hL hS hAll hP hl ih1
      have ke11 := jne e11 (rfl : x2.toInt = x2.toInt) jz_11
      by_cases e12 : x2 = 12
      · refine jtopr e12 ?_
        refine lv_tableIn (off := 539) (tgt := 572) hx hb dL_law_33 (of_decide_eq_true rfl) (of_decide_eq_true rfl) (of_decide_eq_true rfl) (of_decide_eq_true rfl) ?_
        exact law_case_12 l C1 hJ hA hK hZ h0 hxL hL hS hAll hP hl ih1
      have ke12 := jne e12 (rfl : x2.toInt = x2.toInt) jz_12
      by_cases e13 : x2 = 13
      · refine jtopr e13 ?_
        refine lv_tableIn (off := 572) (tgt := 605) hx hb dL_law_33 (of_decide_eq_true rfl) (of_decide_eq_true rfl) (of_decide_eq_true rfl) (of_decide_eq_true rfl) ?_
        exact law_case_13 l C1 hJ hA hK hZ h0 hxL hL hS hAll hP hl ih1
      have ke13 := jne e13 (rfl : x2.toInt = x2.toInt) jz_13
      by_cases e14 : x2 = 14
      · refine jtopr e14 ?_
        refine lv_tableIn (off := 595) (tgt := 628) hx hb dL_law_33 (of_decide_eq_true rfl) (of_decide_eq_true rfl) (of_decide_eq_true rfl) (of_decide_eq_true rfl) ?_
        exact law_case_14 l C1 hJ hA hK hZ h0 hxL hL hS hAll hP hl ih1
      have ke14 := jne e14 (rfl : x2.toInt = x2.toInt) jz_14
      by_cases e15 : x2 = 15
      · refine jtopr e15 ?_
        refine lv_tableIn (off := 628) (tgt := 661) hx hb dL_law_33 (of_decide_eq_true rfl) (of_decide_eq_true rfl) (of_decide_eq_true rfl) (of_decide_eq_true rfl) ?_
        exact law_case_15 l C1 hJ hA hK hZ h0 hxL hL hS hAll hP hl ih1
      have ke15 := jne e15 (rfl : x2.toInt = x2.toInt) jz_15
      by_cases e16 : x2 = 16
      · refine jtopr e16 ?_
        refine lv_tableIn (off := 661) (tgt := 694) hx hb dL_law_33 (of_decide_eq_true rfl) (of_decide_eq_true rfl) (of_decide_eq_true rfl) (of_decide_eq_true rfl) ?_
        exact law_case_16 l C1 hJ hA hK hZ h0 hxL hL hS hAll hP hl ih1
      have ke16 := jne e16 (rfl : x2.toInt = x2.toInt) jz_16
      by_cases e17 : x2 = 17
      · refine jtopr e17 ?_
        refine lv_tableIn (off := 684) (tgt := 717) hx hb dL_law_33 (of_decide_eq_true rfl) (of_decide_eq_true rfl) (of_decide_eq_true rfl) (of_decide_eq_true rfl) ?_
        exact law_case_17 l C1 hJ hA hK hZ h0 hxL hL hS hAll hP hl ih1
      have ke17 := jne e17 (rfl : x2.toInt = x2.toInt) jz_17
      by_cases e18 : x2 = 18
      · refine jtopr e18 ?_
        refine lv_tableIn (off := 707) (tgt := 740) hx hb dL_law_33 (of_decide_eq_true rfl) (of_decide_eq_true rfl) (of_decide_eq_true rfl) (of_decide_eq_true rfl) ?_
        exact law_case_18 l C1 hJ hA hK hZ h0 hxL hL hS hAll hP hl ih1
      have ke18 := jne e18 (rfl : x2.toInt = x2.toInt) jz_18
      by_cases e19 : x2 = 19
      · refine jtopr e19 ?_
        refine lv_tableIn (off := 740) (tgt := 773) hx hb dL_law_33 (of_decide_eq_true rfl) (of_decide_eq_true rfl) (of_decide_eq_true rfl) (of_decide_eq_true rfl) ?_
        exact law_case_19 l C1 hJ hA hK hZ h0 hxL hL hS hAll hP hl ih1
      have ke19 := jne e19 (rfl : x2.toInt = x2.toInt) jz_19
      by_cases e20 : x2 = 20
      · refine jtopr e20 ?_
        refine lv_tableIn (off := 773) (tgt := 806) hx hb dL_law_33 (of_decide_eq_true rfl) (of_decide_eq_true rfl) (of_decide_eq_true rfl) (of_decide_eq_true rfl) ?_
        exact law_case_20 l C1 hJ hA hK hZ h0 hxL hL hS hAll hP hl ih1
      have ke20 := jne e20 (rfl : x2.toInt = x2.toInt) jz_20
      by_cases e21 : x2 = 21
      · refine jtopr e21 ?_
        refine lv_tableIn (off := 806) (tgt := 839) hx hb dL_law_33 (of_decide_eq_true rfl) (of_decide_eq_true rfl) (of_decide_eq_true rfl) (of_decide_eq_true rfl) ?_
        exact law_case_21 l C1 hJ hA hK hZ h0 hxL hL hS hAll hP hl ih1
      have ke21 := jne e21 (rfl : x2.toInt = x2.toInt) jz_21
      by_cases e22 : x2 = 22
      · refine jtopr e22 ?_
        refine lv_tableIn (off := 819) (tgt := 852) hx hb dL_law_33 (of_decide_eq_true rfl) (of_decide_eq_true rfl) (of_decide_eq_true rfl) (of_decide_eq_true rfl) ?_
        exact law_case_22 l C1 hJ hA hK hZ h0 hxL hL hS hAll hP hl ih1
      have ke22 := jne e22 (rfl : x2.toInt = x2.toInt) jz_22
      by_cases e23 : x2 = 23
      · refine jtopr e23 ?_
        refine lv_tableIn (off := 842) (tgt := 875) hx hb dL_law_33 (of_decide_eq_true rfl) (of_decide_eq_true rfl) (of_decide_eq_true rfl) (of_decide_eq_true rfl) ?_
        exact law_case_23 l C1 hJ hA hK hZ h0 hxL hL hS hAll hP hl ih1
      have ke23 := jne e23 (rfl : x2.toInt = x2.toInt) jz_23
      by_cases e24 : x2 = 24
      · refine jtopr e24 ?_
        refine lv_tableIn (off := 865) (tgt := 898) hx hb dL_law_33 (of_decide_eq_true rfl) (of_decide_eq_true rfl) (of_decide_eq_true rfl) (of_decide_eq_true rfl) ?_
        exact law_case_24 l C1 hJ hA hK hZ h0 hxL hL hS hAll hP hl ih1
      have ke24 := jne e24 (rfl : x2.toInt = x2.toInt) jz_24
      by_cases e25 : x2 = 25
      · refine jtopr e25 ?_
        refine lv_tableIn (off := 898) (tgt := 931) hx hb dL_law_33 (of_decide_eq_true rfl) (of_decide_eq_true rfl) (of_decide_eq_true rfl) (of_decide_eq_true rfl) ?_
        exact law_case_25 l C1 hJ hA hK hZ h0 hxL hL hS hAll hP hl ih1
      have ke25 := jne e25 (rfl : x2.toInt = x2.toInt) jz_25
      by_cases e26 : x2 = 26
      · refine jtopr e26 ?_
        refine lv_tableIn (off := 931) (tgt := 964) hx hb dL_law_33 (of_decide_eq_true rfl) (of_decide_eq_true rfl) (of_decide_eq_true rfl) (of_decide_eq_true rfl) ?_
        exact law_case_26 l C1 hJ hA hK hZ h0 hxL hL hS hAll hP hl ih1
      have ke26 := jne e26 (rfl : x2.toInt = x2.toInt) jz_26
      by_cases e27 : x2 = 27
      · refine jtopr e27 ?_
        refine lv_tableIn (off := 944) (tgt := 977) hx hb dL_law_33 (of_decide_eq_true rfl) (of_decide_eq_true rfl) (of_decide_eq_true rfl) (of_decide_eq_true rfl) ?_
        exact law_case_27 l C1 hJ hA hK hZ h0 hxL hL hS hAll hP hl ih1
      have ke27 := jne e27 (rfl : x2.toInt = x2.toInt) jz_27
      by_cases e28 : x2 = 28
      · refine jtopr e28 ?_
        refine lv_tableIn (off := 957) (tgt := 990) hx hb dL_law_33 (of_decide_eq_true rfl) (of_decide_eq_true rfl) (of_decide_eq_true rfl) (of_decide_eq_true rfl) ?_
        exact law_case_28 l C1 hJ hA hK hZ h0 hxL hL hS hAll hP hl ih1
      have ke28 := jne e28 (rfl : x2.toInt = x2.toInt) jz_28
      by_cases e29 : x2 = 29
      · refine jtopr e29 ?_
        refine lv_tableIn (off := 1000) (tgt := 1033) hx hb dL_law_33 (of_decide_eq_true rfl) (of_decide_eq_true rfl) (of_decide_eq_true rfl) (of_decide_eq_true rfl) ?_
        exact law_case_29 l C1 hJ hA hK hZ h0 hxL hL hS hAll hP hl ih1
      have ke29 := jne e29 (rfl : x2.toInt = x2.toInt) jz_29
      by_cases e30 : x2 = 30
      · refine jtopr e30 ?_
        refine lv_tableIn (off := 1023) (tgt := 1056) hx hb dL_law_33 (of_decide_eq_true rfl) (of_decide_eq_true rfl) (of_decide_eq_true rfl) (of_decide_eq_true rfl) ?_
        exact law_case_30 l C1 hJ hA hK hZ h0 hxL hL hS hAll hP hl ih1
      have ke30 := jne e30 (rfl : x2.toInt = x2.toInt) jz_30
      by_cases e31 : x2 = 31
      · refine jtopr e31 ?_
        refine lv_tableIn (off := 1056) (tgt := 1089) hx hb dL_law_33 (of_decide_eq_true rfl) (of_decide_eq_true rfl) (of_decide_eq_true rfl) (of_decide_eq_true rfl) ?_
        exact law_case_31 l C1 hJ hA hK hZ h0 hxL hL hS hAll hP hl ih1
      have ke31 := jne e31 (rfl : x2.toInt = x2.toInt) jz_31
      by_cases e32 : x2 = 32
      · refine jtopr e32 ?_
        refine lv_tableIn (off := 1099) (tgt := 1132) hx hb dL_law_33 (of_decide_eq_true rfl) (of_decide_eq_true rfl) (of_decide_eq_true rfl) (of_decide_eq_true rfl) ?_
        exact law_case_32 l C1 hJ hA hK hZ h0 hxL hL hS hAll hP hl ih1
      have ke32 := jne e32 (rfl : x2.toInt = x2.toInt) jz_32
      by_cases e33 : x2 = 33
      · refine jtopr e33 ?_
        refine lv_tableIn (off := 1172) (tgt := 1205) hx hb dL_law_33 (of_decide_eq_true rfl) (of_decide_eq_true rfl) (of_decide_eq_true rfl) (of_decide_eq_true rfl) ?_
        exact law_case_33 l C1 hJ hA hK hZ h0 hxL hL hS hAll hP hl ih1
      have ke33 := jne e33 (rfl : x2.toInt = x2.toInt) jz_33
      by_cases e34 : x2 = 34
      · refine jtopr e34 ?_
        refine lv_tableIn (off := 1205) (tgt := 1238) hx hb dL_law_33 (of_decide_eq_true rfl) (of_decide_eq_true rfl) (of_decide_eq_true rfl) (of_decide_eq_true rfl) ?_
        exact law_case_34 l C1 hJ hA hK hZ h0 hxL hL hS hAll hP hl ih1
      have ke34 := jne e34 (rfl : x2.toInt = x2.toInt) jz_34
      by_cases e35 : x2 = 35
      · refine jtopr e35 ?_
        refine lv_tableIn (off := 1268) (tgt := 1301) hx hb dL_law_33 (of_decide_eq_true rfl) (of_decide_eq_true rfl) (of_decide_eq_true rfl) (of_decide_eq_true rfl) ?_
        exact law_case_35 l C1 hJ hA hK hZ h0 hxL hL hS hAll hP hl ih1
      have ke35 := jne e35 (rfl : x2.toInt = x2.toInt) jz_35
      by_cases e36 : x2 = 36
      · refine jtopr e36 ?_
        refine lv_tableIn (off := 1301) (tgt := 1334) hx hb dL_law_33 (of_decide_eq_true rfl) (of_decide_eq_true rfl) (of_decide_eq_true rfl) (of_decide_eq_true rfl) ?_
        exact law_case_36 l C1 hJ hA hK hZ h0 hxL hL hS hAll hP hl ih1
      have ke36 := jne e36 (rfl : x2.toInt = x2.toInt) jz_36
      exact by
       refine lv_tableOut (tgt := 1357) hx hb dL_law_33 (by show x2.toInt < 0 ∨ 36 < x2.toInt; omega) (of_decide_eq_true rfl) ?_
       exact law_case_37 l C1 hJ hA hK hZ h0 hxL hL hS hAll hP hl ih1
theorem sg_all : jAll ((0 : Int32).toInt) sg0 tu0 := by
  exact ⟨⟨(by decide +kernel), (by decide +kernel), (by decide +kernel), (by decide +kernel), (by decide +kernel), (fun k _ => (⟨by decide, by decide⟩ : 0 ≤ (0 : Int32).toInt ∧ (0 : Int32).toInt ≤ 67)), (fun k _ => (⟨by decide, by decide⟩ : 0 ≤ (0 : Int32).toInt ∧ (0 : Int32).toInt ≤ 20))⟩,
    ⟨(by decide +kernel), (fun k _ => (⟨by decide, by decide⟩ : 0 ≤ (0 : Int32).toInt ∧ (0 : Int32).toInt ≤ 255)), (fun k _ => (⟨by decide, by decide⟩ : 0 ≤ (0 : Int32).toInt ∧ (0 : Int32).toInt ≤ 3))⟩,
    ⟨(by decide +kernel), (fun k _ => (⟨by decide, by decide⟩ : 0 ≤ (0 : Int32).toInt ∧ (0 : Int32).toInt ≤ 30000))⟩,
    ⟨(by decide +kernel), (by decide +kernel), (by decide +kernel), (fun k _ => (⟨by decide, by decide⟩ : 0 ≤ (0 : Int32).toInt ∧ (0 : Int32).toInt ≤ 3))⟩,
    ⟨(by decide +kernel), (fun k _ => (⟨by decide, by decide⟩ : 0 ≤ (0 : Int32).toInt ∧ (0 : Int32).toInt ≤ 30000))⟩,
    ⟨(by decide +kernel), (fun k _ => (⟨by decide, by decide⟩ : 0 ≤ (0 : Int32).toInt ∧ (0 : Int32).toInt ≤ 30000))⟩,
    ⟨(by decide +kernel), (by decide +kernel), (by decide +kernel), (by decide +kernel), (fun k _ => (⟨by decide, by decide⟩ : (-1) ≤ (0 : Int32).toInt ∧ (0 : Int32).toInt ≤ 350)), (fun k _ => (⟨by decide, by decide⟩ : (-1) ≤ (0 : Int32).toInt ∧ (0 : Int32).toInt ≤ 3)), (fun k _ => (⟨by decide, by decide⟩ : 0 ≤ (0 : Int32).toInt ∧ (0 : Int32).toInt ≤ 349))⟩,
    ⟨(by decide +kernel), (by decide +kernel), (fun k _ => (⟨by decide, by decide⟩ : 0 ≤ (0 : Int32).toInt ∧ (0 : Int32).toInt ≤ 6))⟩,
    (show 0 ≤ (sg0 43 8).toInt ∧ (sg0 43 8).toInt ≤ 8 by decide +kernel),
    ⟨(by decide +kernel), (fun k _ => (⟨by decide, by decide⟩ : 0 ≤ (0 : Int32).toInt ∧ (0 : Int32).toInt ≤ 3)), (fun k _ => (⟨by decide, by decide⟩ : 0 ≤ (0 : Int32).toInt ∧ (0 : Int32).toInt ≤ 1))⟩,
    (fun k _ => (⟨by decide, by decide⟩ : 0 ≤ (0 : Int32).toInt ∧ (0 : Int32).toInt ≤ 60)),
    (fun k _ => (⟨by decide, by decide⟩ : 0 ≤ (0 : Int32).toInt ∧ (0 : Int32).toInt ≤ 3)),
    (show 1 ≤ (sg0 26 6).toInt ∧ (sg0 26 6).toInt ≤ 8000 by decide +kernel),
    ⟨(by decide +kernel), (by decide +kernel), (by decide +kernel), (show ∀ k : Nat, k < 68 → (-200) ≤ (sg0 56 k).toInt ∧ (sg0 56 k).toInt ≤ 500 by decide +kernel), (fun k _ => (⟨by decide, by decide⟩ : 0 ≤ (0 : Int32).toInt ∧ (0 : Int32).toInt ≤ 67)), (fun k _ => (⟨by decide, by decide⟩ : (-200) ≤ (0 : Int32).toInt ∧ (0 : Int32).toInt ≤ 500)), (fun k _ => (⟨by decide, by decide⟩ : (-200) ≤ (0 : Int32).toInt ∧ (0 : Int32).toInt ≤ 500))⟩,
    ⟨(by decide +kernel), (fun k _ => (⟨by decide, by decide⟩ : 0 ≤ (0 : Int32).toInt ∧ (0 : Int32).toInt ≤ 50)), (fun k _ => (⟨by decide, by decide⟩ : 0 ≤ (0 : Int32).toInt ∧ (0 : Int32).toInt ≤ 20))⟩,
    (show 0 ≤ (sg0 55 9).toInt ∧ (sg0 55 9).toInt ≤ 3 by decide +kernel),
    ⟨(by decide +kernel), (by decide +kernel), (by decide +kernel), (fun k _ => (⟨by decide, by decide⟩ : 0 ≤ (0 : Int32).toInt ∧ (0 : Int32).toInt ≤ 3)), (fun k _ => (⟨by decide, by decide⟩ : 0 ≤ (0 : Int32).toInt ∧ (0 : Int32).toInt ≤ 3))⟩,
    ⟨(by decide +kernel), (show ∀ k : Nat, k < 2 → (-1) ≤ (sg0 65 k).toInt ∧ (sg0 65 k).toInt ≤ 80 by decide +kernel)⟩,
    ⟨(by decide +kernel), (fun k _ => (⟨by decide, by decide⟩ : 0 ≤ (0 : Int32).toInt ∧ (0 : Int32).toInt ≤ 6)), (fun k _ => (⟨by decide, by decide⟩ : 0 ≤ (0 : Int32).toInt ∧ (0 : Int32).toInt ≤ 8)), (fun k _ => (⟨by decide, by decide⟩ : 0 ≤ (0 : Int32).toInt ∧ (0 : Int32).toInt ≤ 3))⟩,
    ⟨(by decide +kernel), (by decide +kernel), (fun k _ => (⟨by decide, by decide⟩ : 0 ≤ (0 : Int32).toInt ∧ (0 : Int32).toInt ≤ 3))⟩,
    (show 0 ≤ (sg0 55 50).toInt ∧ (sg0 55 50).toInt ≤ 12 by decide +kernel),
    ⟨(show ∀ k : Nat, k < 6 → (-1) ≤ (sg0 86 k).toInt ∧ (sg0 86 k).toInt ≤ 24 by decide +kernel), (fun k _ => (⟨by decide, by decide⟩ : 0 ≤ (0 : Int32).toInt ∧ (0 : Int32).toInt ≤ 60))⟩,
    (fun k _ => (⟨by decide, by decide⟩ : 0 ≤ (0 : Int32).toInt ∧ (0 : Int32).toInt ≤ 3)),
    (fun k _ => (⟨by decide, by decide⟩ : 0 ≤ (0 : Int32).toInt ∧ (0 : Int32).toInt ≤ 3)),
    (fun k _ => (⟨⟨by decide, by decide⟩, by decide, by decide⟩ : (0 ≤ (0 : Int32).toInt ∧ (0 : Int32).toInt ≤ 1023000 * (12 - (0 : Int32).toInt / 16)) ∧ 0 ≤ (0 : Int32).toInt ∧ (0 : Int32).toInt ≤ 3)),
    (jBook.nil (by decide +kernel)),
    (jNamed.first (by decide +kernel)),
    ⟨by decide +kernel, by decide +kernel⟩,
    (jBl.first (by decide +kernel) (by decide +kernel) (fun _ _ => rfl) (by decide +kernel)),
    (jKb.nil (by decide +kernel)),
    (jTR.first (by decide +kernel) (by decide +kernel)),
    (jKh.nil (by decide +kernel)),
    (jKg.nil (by decide +kernel) (by decide +kernel)),
    (jNz.first (fun _ _ => rfl)),
    (jqSt.first (fun _ => rfl) (by decide +kernel)),
    (show (sg0 2 0).toInt = (sg0 55 6).toInt by decide +kernel),
    (show (sg0 2 2).toInt = (sg0 55 5).toInt by decide +kernel),
    (show (sg0 2 2).toInt + (sg0 2 3).toInt = (sg0 55 4).toInt by decide +kernel),
    (show (sg0 9 0).toInt = (sg0 55 15).toInt by decide +kernel),
    (show (sg0 16 0).toInt = (sg0 55 10).toInt by decide +kernel),
    (show (sg0 16 1).toInt = (sg0 55 12).toInt by decide +kernel),
    (show (sg0 16 2).toInt = (sg0 55 13).toInt by decide +kernel),
    (show (sg0 38 0).toInt = (sg0 55 32).toInt by decide +kernel),
    (show (sg0 38 1).toInt = (sg0 55 55).toInt by decide +kernel),
    (show (sg0 47 0).toInt = (sg0 55 47).toInt by decide +kernel),
    (show (sg0 55 30).toInt = (-1) by decide +kernel),
    (show (sg0 55 31).toInt = (-1) by decide +kernel),
    (show (sg0 2 1).toInt = (sg0 55 9).toInt by decide +kernel),
    (show 0 ≤ (sg0 55 42).toInt by decide +kernel),
    (show 6 * (sg0 26 6).toInt ≤ ((0 : Int32).toInt) + 6 by decide +kernel),
    (show 6 * (sg0 55 42).toInt ≤ 1024 * ((0 : Int32).toInt) by decide +kernel),
    ⟨by decide +kernel, by decide +kernel, fun k hk => absurd hk (by rw [show (sg0 55 4).toInt = 0 from by decide +kernel]; omega)⟩,
    ⟨(fun j hj => (show ∀ j : Nat, j < 4 → 0 ≤ (sg0 56 (32 + j)).toInt ∧ (sg0 56 (32 + j)).toInt ≤ 8 by decide +kernel) j hj), fun k hk => absurd hk (by rw [show (sg0 55 4).toInt = 0 from by decide +kernel]; omega)⟩,
    (fun k hk => absurd hk (by rw [show (sg0 55 15).toInt = 0 from by decide +kernel]; omega)),
    (fun j hj => by rw [show (sg0 16 0).toInt = 1 from by decide +kernel] at hj; rw [show j = 0 by omega]; decide +kernel),
    ⟨by decide +kernel, jall6 (Or.inl ⟨by decide +kernel, by decide +kernel⟩) (Or.inl ⟨by decide +kernel, by decide +kernel⟩) (Or.inl ⟨by decide +kernel, by decide +kernel⟩) (Or.inl ⟨by decide +kernel, by decide +kernel⟩) (Or.inl ⟨by decide +kernel, by decide +kernel⟩) (Or.inl ⟨by decide +kernel, by decide +kernel⟩)⟩,
    (fun d hd h0 i hi => rfl),
    (fun d hd h0 i hi => (show -128 ≤ (0 : Int64).toInt ∧ (0 : Int64).toInt ≤ 127 by decide)),
    (jBk.nil (by rw [show (sg0 55 47).toInt = 0 from by decide +kernel]; omega)),
    (fun r hr => absurd hr (by rw [show (sg0 55 32).toInt = 0 from by decide +kernel]; omega)),
    (jTt.nil (by rw [show (sg0 55 55).toInt = 0 from by decide +kernel]; omega)),
    (fun k hk => absurd hk (by rw [show (sg0 55 6).toInt = 0 from by decide +kernel]; omega)),
    (fun nm => by rw [jGc_no (show (sg0 18 0).toInt ≤ 0 from by decide +kernel), jGr_no (show (sg0 65 0).toInt < 0 from by decide +kernel)]),
    (fun nm => by rw [jGc_no (show (sg0 22 0).toInt ≤ 0 from by decide +kernel), jGr_no (show (sg0 65 1).toInt < 0 from by decide +kernel)]),
    ⟨(fun j hj => (show ∀ j : Nat, j < 68 → 16 ≤ j → -9 ≤ (sg0 56 j).toInt ∧ (sg0 56 j).toInt ≤ 9 by decide +kernel) j (by unfold jPl at hj; omega) (by unfold jPl at hj; omega)), fun k hk => absurd hk (by rw [show (sg0 55 4).toInt = 0 from by decide +kernel]; omega)⟩,
    (jqbN.nil (by rw [show (sg0 55 47).toInt = 0 from by decide +kernel]; omega))⟩
set_option maxHeartbeats 4000000 in
set_option maxRecDepth 100000 in
theorem whole_start {p : Program} {e : Env} {s : State} {m : MethodId} {below : List Frame} {meth : Method} {c : Code} (l : Launch) (hflags : l.flags = flags0) {b L : Nat} {xs : Nat → Int32} (hL : L ≤ 384) (C0 : lw_At p s m meth c b L xs) : W p l e room_1 s m #[Value.ref b] below meth c s.heap [] 0 0 (lw_Z below #[Value.ref b] s) (entryFrame m ([Value.ref b] : List Value).toArray 4) := by
  have C1 := C0
  obtain ⟨hx, hb, hr, hml, hown, hts0, hX, hbl, hlocks, hgv⟩ := C0
  have hts : ∀ w ∈ wsL_law, w.before #[Value.ref b] s = true := fun w h => hts0 w (wsL_law_in w h)
  have hbA : ¬ (fun q : Nat => s.heap.size ≤ q) b := Nat.not_le.mpr hbl
  have hown : s.vm.findClass RL = some m.cls := hown
  have hA : ∀ q : Nat, s.heap.size ≤ q → (fun q : Nat => s.heap.size ≤ q) q := fun _ h => h
  obtain ⟨cc1, iS1, hKn1⟩ := u_known (C := RX1) (T := TX1) (N := 13) (n := 13) hts inlX1 (hts (.instantiable RX1 13) kw_2_11)
  obtain ⟨cc2, iS2, hKn2⟩ := u_known (C := RX2) (T := TX2) (N := 3) (n := 3) hts inlX2 (hts (.instantiable RX2 3) kw_2_23)
  obtain ⟨cc3, iS3, hKn3⟩ := u_known (C := RX3) (T := TX3) (N := 9) (n := 9) hts inlX3 (hts (.instantiable RX3 9) kw_2_19)
  obtain ⟨cc4, iS4, hKn4⟩ := u_known (C := RX4) (T := TX4) (N := 10) (n := 10) hts inlX4 (hts (.instantiable RX4 10) kw_1_14)
  obtain ⟨cc5, iS5, hKn5⟩ := u_known (C := RX5) (T := TX5) (N := 8) (n := 8) hts inlX5 (hts (.instantiable RX5 8) kw_2_7)
  obtain ⟨cc6, iS6, hKn6⟩ := u_known (C := RX6) (T := TX6) (N := 4) (n := 4) hts inlX6 (hts (.instantiable RX6 4) kw_1_22)
  obtain ⟨cc7, iS7, hKn7⟩ := u_known (C := RX7) (T := TX7) (N := 6) (n := 6) hts inlX7 (hts (.instantiable RX7 6) kw_1_18)
  obtain ⟨cc8, iS8, hKn8⟩ := u_known (C := RX8) (T := TX8) (N := 6) (n := 6) hts inlX8 (hts (.instantiable RX8 6) kw_2_15)
  obtain ⟨cc9, iS9, hKn9⟩ := u_known (C := RX9) (T := TX9) (N := 5) (n := 5) hts inlX9 (hts (.instantiable RX9 5) kw_3_3)
  obtain ⟨cc10, iS10, hKn10⟩ := u_known (C := RX10) (T := TX10) (N := 5) (n := 5) hts inlX10 (hts (.instantiable RX10 5) kw_2_2)
  obtain ⟨cc11, iS11, hKn11⟩ := u_known (C := RX11) (T := TX11) (N := 12) (n := 12) hts inlX11 (hts (.instantiable RX11 12) kw_1_1)
  obtain ⟨cc12, iS12, hKn12⟩ := u_known (C := RX12) (T := TX12) (N := 62) (n := 62) hts inlX12 (hts (.instantiable RX12 62) kw_1_4)
  obtain ⟨D, hKc⟩ : ∃ D : va_G, ∀ (k : Nat) (q : vw_C), vwCl[k]? = some q → u_Kn s q.1 q.2.1 q.2.2 (D.1 k) (D.2 k) := by
    refine ⟨(fun k => if k = 0 then cc1 else if k = 1 then cc2 else if k = 2 then cc3 else if k = 3 then cc4 else if k = 4 then cc5 else if k = 5 then cc6 else if k = 6 then cc7 else if k = 7 then cc8 else if k = 8 then cc9 else if k = 9 then cc10 else if k = 10 then cc11 else cc12, fun k => if k = 0 then iS1 else if k = 1 then iS2 else if k = 2 then iS3 else if k = 3 then iS4 else if k = 4 then iS5 else if k = 5 then iS6 else if k = 6 then iS7 else if k = 7 then iS8 else if k = 8 then iS9 else if k = 9 then iS10 else if k = 10 then iS11 else iS12), ?_⟩
    intro k q hq
    match k, hq with
    | 0, hq => cases hq; exact hKn1
    | 1, hq => cases hq; exact hKn2
    | 2, hq => cases hq; exact hKn3
    | 3, hq => cases hq; exact hKn4
    | 4, hq => cases hq; exact hKn5
    | 5, hq => cases hq; exact hKn6
    | 6, hq => cases hq; exact hKn7
    | 7, hq => cases hq; exact hKn8
    | 8, hq => cases hq; exact hKn9
    | 9, hq => cases hq; exact hKn10
    | 10, hq => cases hq; exact hKn11
    | 11, hq => cases hq; exact hKn12
    | k + 12, hq => simp [vwCl] at hq
  obtain ⟨cI, hI1, hI2⟩ := jarr (hts (.arrayClass .int) kw_3_6)
  obtain ⟨cL, hL1, hL2⟩ := jarr (hts (.arrayClass .long) kw_6_19)
  have hK : jK D cI cL s := by
    refine ⟨hKc, fun k q hq => ?_⟩
    match k, hq with
    | 0, hq => cases hq; exact ⟨hI1, hI2⟩
    | 1, hq => cases hq; exact ⟨hL1, hL2⟩
    | k + 2, hq => simp at hq
  have hS : va_S (fun q : Nat => s.heap.size ≤ q) s.heap s.heap [] := va_S.rf
  have hP : va_P D vwCl [] s.heap := fun k q h => by simp at h
  have hD : va_D (fun q : Nat => s.heap.size ≤ q) [] := ⟨fun i j p q h => by simp at h, fun k q h => by simp at h⟩
  have hl := lv_entry ([.ref b] : List Value) (n := 4) (Nat.le_of_ble_eq_true rfl)
  rw [lg_entry_eq]
  generalize (lg_sl [.ref b] ++ List.replicate (4 - (lg_sl [.ref b]).length) Slot.unset).toArray = ls at hl ⊢
  have hl : lv_has ls 4 [(0, .ref b)] := hl
  have hnr9 : va_Nw (.methodLinkNest RX11 9 yX4_init "ChangeBowler") s := va_Nw.of rfl (hts0 (.methodLinkNest RX11 9 yX4_init "ChangeBowler") (by decide +kernel))
  have hnr18 : va_Nw (.methodLinkNest RX11 18 yX7_init "ChangeBowler") s := va_Nw.of rfl (hts0 (.methodLinkNest RX11 18 yX7_init "ChangeBowler") (by decide +kernel))
  have hnr25 : va_Nw (.methodLinkNest RX11 25 yX6_init "ChangeBowler") s := va_Nw.of rfl (hts0 (.methodLinkNest RX11 25 yX6_init "ChangeBowler") (by decide +kernel))
  have hnr32 : va_Nw (.methodLinkNest RX11 32 yX10_init "ChangeBowler") s := va_Nw.of rfl (hts0 (.methodLinkNest RX11 32 yX10_init "ChangeBowler") (by decide +kernel))
  have hnr60 : va_Nw (.methodLinkNest RX11 60 yX8_init "ChangeBowler") s := va_Nw.of rfl (hts0 (.methodLinkNest RX11 60 yX8_init "ChangeBowler") (by decide +kernel))
  have hnr76 : va_Nw (.methodLinkNest RX11 76 yX2_init "ChangeBowler") s := va_Nw.of rfl (hts0 (.methodLinkNest RX11 76 yX2_init "ChangeBowler") (by decide +kernel))
  have hnr20 : va_Nw (.methodLinkNest RX7 20 yX10_init "ChangeBowler") s := va_Nw.of rfl (hts0 (.methodLinkNest RX7 20 yX10_init "ChangeBowler") (by decide +kernel))
  refine va_new (ci := 10) (fs := [.null, .null, .null, .null, .null, .null, .null, .null, .null, .null, .null, .null]) (C := RX11) (T := TX11) (N := 12) hx hb hts inlX11 tyX11 tyX11_ok hown (hts _ kw_1_0) (hts (.instantiable RX11 12) kw_1_1) (hts (.initialized RX11) kw_1_2) hK hP hD hS hA rfl (jdef_11) (Nat.le_of_ble_eq_true rfl) (Nat.le_of_ble_eq_true rfl) dL_law_0 (fun u0 H hP hD hS => ?_)
  have hP : va_P D vwCl [(u0, .inr (10, [.null, .null, .null, .null, .null, .null, .null, .null, .null, .null, .null, .null]))] H := hP
  have hD : va_D (fun q : Nat => s.heap.size ≤ q) [(u0, .inr (10, [.null, .null, .null, .null, .null, .null, .null, .null, .null, .null, .null, .null]))] := hD
  refine W.widen (k := 1) (n := 12) (Nat.le_of_ble_eq_true rfl) (Nat.le_of_ble_eq_true rfl) ?_
  refine lv_dup hx hb dL_law_3 rfl ?_
  have hPc := hP.sub (ws' := [(u0, .inr (10, [.null, .null, .null, .null, .null, .null, .null, .null, .null, .null, .null, .null]))]) [0] rfl
  have hDc := hD.sub (ws' := [(u0, .inr (10, [.null, .null, .null, .null, .null, .null, .null, .null, .null, .null, .null, .null]))]) [0] (of_decide_eq_true rfl) rfl
  have hFc := va_free (wc := [(u0, .inr (10, [.null, .null, .null, .null, .null, .null, .null, .null, .null, .null, .null, .null]))]) hD hS hA [0] rfl
  refine va_callv (va_runI (As := []) (rest := [.ref u0]) ⟨hx, hb, hml, hown, hts⟩ (k_X11_init l D cI cL u0 H.size) (cwI 0 hts (jgoodL kw_1_9) rfl rfl rfl (hts _ kw_1_2) (hts _ kw_1_7) (hts _ kw_1_8) rfl (by decide +kernel) ⟨Nat.le_of_ble_eq_true rfl, Nat.le_of_ble_eq_true rfl⟩) ⟨fun a U g mk q => by obtain ⟨q0, q1, qP, qK, qD, qN0, qN1, qN2, qN3, qN4, qN5, qN6⟩ := q; exact ⟨q0, q1, qP, va_K.moved (u := U) (U := U.calling g mk a) (Vm.Alike.refl U.vm) qK, qD, va_Nw.same rfl rfl qN0, va_Nw.same rfl rfl qN1, va_Nw.same rfl rfl qN2, va_Nw.same rfl rfl qN3, va_Nw.same rfl rfl qN4, va_Nw.same rfl rfl qN5, va_Nw.same rfl rfl qN6⟩, fun U hU hW => ⟨rfl, by rw [hU], by rw [hU]; exact hPc, va_K.moved hW.alike hK, hDc.weaken (fun _ _ _ _ => trivial), va_Nw.warmM hW hnr9, va_Nw.warmM hW hnr18, va_Nw.warmM hW hnr25, va_Nw.warmM hW hnr32, va_Nw.warmM hW hnr60, va_Nw.warmM hW hnr76, va_Nw.warmM hW hnr20⟩⟩ rfl rfl hl.1 rfl (lv_room (Nat.le_of_ble_eq_true rfl)) dL_law_4 ⟨Nat.le_of_ble_eq_true rfl, Nat.le_of_ble_eq_true rfl⟩) hS (fun q _ h => hFc q h) hFc (fun u t H1 locs ht hvm hw hB hz1 hk1 hS => ?_)
  refine Exists.elim hB (fun aq1 hB2 => ?_)
  clear hB
  refine Exists.elim hB2 (fun aq2 hB => ?_)
  clear hB2
  refine Exists.elim hB (fun aq3 hB2 => ?_)
  clear hB
  refine Exists.elim hB2 (fun aq4 hB => ?_)
  clear hB2
  refine Exists.elim hB (fun aq5 hB2 => ?_)
  clear hB
  refine Exists.elim hB2 (fun aq6 hB => ?_)
  clear hB2
  refine Exists.elim hB (fun aq7 hB2 => ?_)
  clear hB
  refine Exists.elim hB2 (fun aq8 hB => ?_)
  clear hB2
  refine Exists.elim hB (fun aq9 hB2 => ?_)
  clear hB
  refine Exists.elim hB2 (fun aq10 hB => ?_)
  clear hB2
  refine Exists.elim hB (fun aq11 hB2 => ?_)
  clear hB
  refine Exists.elim hB2 (fun aq12 hB => ?_)
  clear hB2
  refine Exists.elim hB (fun aq13 hB2 => ?_)
  clear hB
  refine Exists.elim hB2 (fun aq14 hB => ?_)
  clear hB2
  refine Exists.elim hB (fun aq15 hB2 => ?_)
  clear hB
  refine Exists.elim hB2 (fun aq16 hB => ?_)
  clear hB2
  refine Exists.elim hB (fun aq17 hB2 => ?_)
  clear hB
  refine Exists.elim hB2 (fun aq18 hB => ?_)
  clear hB2
  refine Exists.elim hB (fun aq19 hB2 => ?_)
  clear hB
  refine Exists.elim hB2 (fun aq20 hB => ?_)
  clear hB2
  refine Exists.elim hB (fun aq21 hB2 => ?_)
  clear hB
  refine Exists.elim hB2 (fun aq22 hB => ?_)
  clear hB2
  refine Exists.elim hB (fun aq23 hB2 => ?_)
  clear hB
  refine Exists.elim hB2 (fun aq24 hB => ?_)
  clear hB2
  refine Exists.elim hB (fun aq25 hB2 => ?_)
  clear hB
  refine Exists.elim hB2 (fun aq26 hB => ?_)
  clear hB2
  refine Exists.elim hB (fun aq27 hB2 => ?_)
  clear hB
  refine Exists.elim hB2 (fun aq28 hB => ?_)
  clear hB2
  refine Exists.elim hB (fun aq29 hB2 => ?_)
  clear hB
  refine Exists.elim hB2 (fun aq30 hB => ?_)
  clear hB2
  refine Exists.elim hB (fun aq31 hB2 => ?_)
  clear hB
  refine Exists.elim hB2 (fun aq32 hB => ?_)
  clear hB2
  refine Exists.elim hB (fun aq33 hB2 => ?_)
  clear hB
  refine Exists.elim hB2 (fun aq34 hB => ?_)
  clear hB2
  refine Exists.elim hB (fun aq35 hB2 => ?_)
  clear hB
  refine Exists.elim hB2 (fun aq36 hB => ?_)
  clear hB2
  refine Exists.elim hB (fun aq37 hB2 => ?_)
  clear hB
  refine Exists.elim hB2 (fun aq38 hB => ?_)
  clear hB2
  refine Exists.elim hB (fun aq39 hB2 => ?_)
  clear hB
  refine Exists.elim hB2 (fun aq40 hB => ?_)
  clear hB2
  refine Exists.elim hB (fun aq41 hB2 => ?_)
  clear hB
  refine Exists.elim hB2 (fun aq42 hB => ?_)
  clear hB2
  refine Exists.elim hB (fun aq43 hB2 => ?_)
  clear hB
  refine Exists.elim hB2 (fun aq44 hB => ?_)
  clear hB2
  refine Exists.elim hB (fun aq45 hB2 => ?_)
  clear hB
  refine Exists.elim hB2 (fun aq46 hB => ?_)
  clear hB2
  refine Exists.elim hB (fun aq47 hB2 => ?_)
  clear hB
  refine Exists.elim hB2 (fun aq48 hB => ?_)
  clear hB2
  refine Exists.elim hB (fun aq49 hB2 => ?_)
  clear hB
  refine Exists.elim hB2 (fun aq50 hB => ?_)
  clear hB2
  refine Exists.elim hB (fun aq51 hB2 => ?_)
  clear hB
  refine Exists.elim hB2 (fun aq52 hB => ?_)
  clear hB2
  refine Exists.elim hB (fun aq53 hB2 => ?_)
  clear hB
  refine Exists.elim hB2 (fun aq54 hB => ?_)
  clear hB2
  obtain ⟨hP1, hK1, hD1⟩ := hB
  rw [ht] at hP1
  obtain ⟨hP, hD⟩ := va_join (wr := []) (w1 := [(u0, .inr (10, [.ref aq1, .ref aq8, .ref aq15, .ref aq17, .ref aq21, .ref aq25, .ref aq30, .ref aq37, .ref aq42, .ref aq46, .ref aq49, .ref aq54])), (aq1, .inr (3, [.int 0, .int 0, .int 0, .int 0, .ref aq2, .ref aq3, .ref aq4, .ref aq5, .ref aq6, .ref aq7])), (aq2, .inl (cI, 68, .inl (fun _ => 0))), (aq3, .inl (cI, 4, .inl (fun _ => 0))), (aq4, .inl (cI, 4, .inl (fun _ => 0))), (aq5, .inl (cI, 40, .inl (fun _ => 0))), (aq6, .inl (cI, 40, .inl (fun _ => 0))), (aq7, .inl (cI, 40, .inl (fun _ => 0))), (aq8, .inr (6, [.int 0, .int 0, .int 0, .ref aq9, .ref aq10, .ref aq11])), (aq9, .inl (cI, 80, .inl (fun _ => 0))), (aq10, .inl (cI, 8, .inl (fun _ => 0))), (aq11, .inr (9, [.int 0, .int 0, .ref aq12, .ref aq13, .ref aq14])), (aq12, .inl (cI, 160, .inl (fun _ => 0))), (aq13, .inl (cI, 8, .inl (fun _ => 0))), (aq14, .inl (cI, 160, .inl (fun _ => 0))), (aq15, .inr (5, [.int 1, .int 8, .int 0, .ref aq16])), (aq16, .inl (cI, 8, .inl (fun _ => 0))), (aq17, .inr (9, [.int 0, .int 0, .ref aq18, .ref aq19, .ref aq20])), (aq18, .inl (cI, 160, .inl (fun _ => 0))), (aq19, .inl (cI, 8, .inl (fun _ => 0))), (aq20, .inl (cI, 160, .inl (fun _ => 0))), (aq21, .inr (9, [.int 0, .int 0, .ref aq22, .ref aq23, .ref aq24])), (aq22, .inl (cI, 160, .inl (fun _ => 0))), (aq23, .inl (cI, 8, .inl (fun _ => 0))), (aq24, .inl (cI, 160, .inl (fun _ => 0))), (aq25, .inr (4, [.ref aq21, .ref aq1, .ref aq26, .ref aq27, .ref aq28, .ref aq29, .int 1, .int 0])), (aq26, .inl (cI, 64, .inl (fun _ => 0))), (aq27, .inl (cI, 64, .inl (fun _ => 0))), (aq28, .inl (cI, 4096, .inl (fun _ => 0))), (aq29, .inl (cI, 4096, .inl (fun _ => 0))), (aq30, .inr (0, [.ref aq25, .ref aq15, .ref aq31, .ref aq32, .ref aq33, .ref aq34, .ref aq35, .ref aq36, .int 0, .int (-1), .int 0, .int 0, .int 0])), (aq31, .inl (cI, 350, .inl (fun _ => 0))), (aq32, .inl (cI, 1400, .inl (fun _ => 0))), (aq33, .inl (cI, 3159, .inl (fun _ => 0))), (aq34, .inl (cI, 3159, .inl (fun _ => 0))), (aq35, .inl (cI, 1024, .inl (fun _ => 0))), (aq36, .inl (cI, 350, .inl (fun _ => 0))), (aq37, .inr (7, [.int 0, .int 0, .ref aq38, .ref aq39, .ref aq40, .ref aq41])), (aq38, .inl (cI, 20, .inl (fun _ => 0))), (aq39, .inl (cI, 20, .inl (fun _ => 0))), (aq40, .inl (cI, 20, .inl (fun _ => 0))), (aq41, .inl (cI, 24, .inl (fun _ => 0))), (aq42, .inr (2, [.ref aq37, .ref aq25, .ref aq30, .ref aq15, .ref aq17, .ref aq43, .ref aq44, .ref aq45, .int 0])), (aq43, .inl (cI, 8, .inl (fun _ => 0))), (aq44, .inl (cI, 8, .inl (fun _ => 0))), (aq45, .inl (cI, 8, .inl (fun _ => 0))), (aq46, .inr (1, [.int 0, .ref aq47, .ref aq48])), (aq47, .inl (cI, 12, .inl (fun _ => 0))), (aq48, .inl (cI, 12, .inl (fun _ => 0))), (aq49, .inr (8, [.ref aq37, .ref aq50, .ref aq51, .ref aq52, .ref aq53])), (aq50, .inl (cI, 6, .inl (upd (upd (upd (upd (upd (upd (fun _ => 0) 0 (-2)) 1 (-2)) 2 (-2)) 3 (-2)) 4 (-2)) 5 (-2)))), (aq51, .inl (cI, 6, .inl (fun _ => 0))), (aq52, .inl (cI, 6, .inl (upd (upd (upd (upd (upd (upd (fun _ => 0) 0 (-1)) 1 (-1)) 2 (-1)) 3 (-1)) 4 (-1)) 5 (-1)))), (aq53, .inl (cL, 360, .inr (.inl (fun _ => 0)))), (aq54, .inl (cI, 8, .inl (fun _ => 0)))]) hP hD [0] [] rfl rfl (of_decide_eq_true rfl) (of_decide_eq_true rfl) hk1 hFc hP1 hD1
  generalize H1 = H at hP hS ⊢
  have hP : va_P D vwCl [(u0, .inr (10, [.ref aq1, .ref aq8, .ref aq15, .ref aq17, .ref aq21, .ref aq25, .ref aq30, .ref aq37, .ref aq42, .ref aq46, .ref aq49, .ref aq54])), (aq1, .inr (3, [.int 0, .int 0, .int 0, .int 0, .ref aq2, .ref aq3, .ref aq4, .ref aq5, .ref aq6, .ref aq7])), (aq2, .inl (cI, 68, .inl (fun _ => 0))), (aq3, .inl (cI, 4, .inl (fun _ => 0))), (aq4, .inl (cI, 4, .inl (fun _ => 0))), (aq5, .inl (cI, 40, .inl (fun _ => 0))), (aq6, .inl (cI, 40, .inl (fun _ => 0))), (aq7, .inl (cI, 40, .inl (fun _ => 0))), (aq8, .inr (6, [.int 0, .int 0, .int 0, .ref aq9, .ref aq10, .ref aq11])), (aq9, .inl (cI, 80, .inl (fun _ => 0))), (aq10, .inl (cI, 8, .inl (fun _ => 0))), (aq11, .inr (9, [.int 0, .int 0, .ref aq12, .ref aq13, .ref aq14])), (aq12, .inl (cI, 160, .inl (fun _ => 0))), (aq13, .inl (cI, 8, .inl (fun _ => 0))), (aq14, .inl (cI, 160, .inl (fun _ => 0))), (aq15, .inr (5, [.int 1, .int 8, .int 0, .ref aq16])), (aq16, .inl (cI, 8, .inl (fun _ => 0))), (aq17, .inr (9, [.int 0, .int 0, .ref aq18, .ref aq19, .ref aq20])), (aq18, .inl (cI, 160, .inl (fun _ => 0))), (aq19, .inl (cI, 8, .inl (fun _ => 0))), (aq20, .inl (cI, 160, .inl (fun _ => 0))), (aq21, .inr (9, [.int 0, .int 0, .ref aq22, .ref aq23, .ref aq24])), (aq22, .inl (cI, 160, .inl (fun _ => 0))), (aq23, .inl (cI, 8, .inl (fun _ => 0))), (aq24, .inl (cI, 160, .inl (fun _ => 0))), (aq25, .inr (4, [.ref aq21, .ref aq1, .ref aq26, .ref aq27, .ref aq28, .ref aq29, .int 1, .int 0])), (aq26, .inl (cI, 64, .inl (fun _ => 0))), (aq27, .inl (cI, 64, .inl (fun _ => 0))), (aq28, .inl (cI, 4096, .inl (fun _ => 0))), (aq29, .inl (cI, 4096, .inl (fun _ => 0))), (aq30, .inr (0, [.ref aq25, .ref aq15, .ref aq31, .ref aq32, .ref aq33, .ref aq34, .ref aq35, .ref aq36, .int 0, .int (-1), .int 0, .int 0, .int 0])), (aq31, .inl (cI, 350, .inl (fun _ => 0))), (aq32, .inl (cI, 1400, .inl (fun _ => 0))), (aq33, .inl (cI, 3159, .inl (fun _ => 0))), (aq34, .inl (cI, 3159, .inl (fun _ => 0))), (aq35, .inl (cI, 1024, .inl (fun _ => 0))), (aq36, .inl (cI, 350, .inl (fun _ => 0))), (aq37, .inr (7, [.int 0, .int 0, .ref aq38, .ref aq39, .ref aq40, .ref aq41])), (aq38, .inl (cI, 20, .inl (fun _ => 0))), (aq39, .inl (cI, 20, .inl (fun _ => 0))), (aq40, .inl (cI, 20, .inl (fun _ => 0))), (aq41, .inl (cI, 24, .inl (fun _ => 0))), (aq42, .inr (2, [.ref aq37, .ref aq25, .ref aq30, .ref aq15, .ref aq17, .ref aq43, .ref aq44, .ref aq45, .int 0])), (aq43, .inl (cI, 8, .inl (fun _ => 0))), (aq44, .inl (cI, 8, .inl (fun _ => 0))), (aq45, .inl (cI, 8, .inl (fun _ => 0))), (aq46, .inr (1, [.int 0, .ref aq47, .ref aq48])), (aq47, .inl (cI, 12, .inl (fun _ => 0))), (aq48, .inl (cI, 12, .inl (fun _ => 0))), (aq49, .inr (8, [.ref aq37, .ref aq50, .ref aq51, .ref aq52, .ref aq53])), (aq50, .inl (cI, 6, .inl (upd (upd (upd (upd (upd (upd (fun _ => 0) 0 (-2)) 1 (-2)) 2 (-2)) 3 (-2)) 4 (-2)) 5 (-2)))), (aq51, .inl (cI, 6, .inl (fun _ => 0))), (aq52, .inl (cI, 6, .inl (upd (upd (upd (upd (upd (upd (fun _ => 0) 0 (-1)) 1 (-1)) 2 (-1)) 3 (-1)) 4 (-1)) 5 (-1)))), (aq53, .inl (cL, 360, .inr (.inl (fun _ => 0)))), (aq54, .inl (cI, 8, .inl (fun _ => 0)))] H := hP
  have hD : va_D (fun q : Nat => s.heap.size ≤ q) [(u0, .inr (10, [.ref aq1, .ref aq8, .ref aq15, .ref aq17, .ref aq21, .ref aq25, .ref aq30, .ref aq37, .ref aq42, .ref aq46, .ref aq49, .ref aq54])), (aq1, .inr (3, [.int 0, .int 0, .int 0, .int 0, .ref aq2, .ref aq3, .ref aq4, .ref aq5, .ref aq6, .ref aq7])), (aq2, .inl (cI, 68, .inl (fun _ => 0))), (aq3, .inl (cI, 4, .inl (fun _ => 0))), (aq4, .inl (cI, 4, .inl (fun _ => 0))), (aq5, .inl (cI, 40, .inl (fun _ => 0))), (aq6, .inl (cI, 40, .inl (fun _ => 0))), (aq7, .inl (cI, 40, .inl (fun _ => 0))), (aq8, .inr (6, [.int 0, .int 0, .int 0, .ref aq9, .ref aq10, .ref aq11])), (aq9, .inl (cI, 80, .inl (fun _ => 0))), (aq10, .inl (cI, 8, .inl (fun _ => 0))), (aq11, .inr (9, [.int 0, .int 0, .ref aq12, .ref aq13, .ref aq14])), (aq12, .inl (cI, 160, .inl (fun _ => 0))), (aq13, .inl (cI, 8, .inl (fun _ => 0))), (aq14, .inl (cI, 160, .inl (fun _ => 0))), (aq15, .inr (5, [.int 1, .int 8, .int 0, .ref aq16])), (aq16, .inl (cI, 8, .inl (fun _ => 0))), (aq17, .inr (9, [.int 0, .int 0, .ref aq18, .ref aq19, .ref aq20])), (aq18, .inl (cI, 160, .inl (fun _ => 0))), (aq19, .inl (cI, 8, .inl (fun _ => 0))), (aq20, .inl (cI, 160, .inl (fun _ => 0))), (aq21, .inr (9, [.int 0, .int 0, .ref aq22, .ref aq23, .ref aq24])), (aq22, .inl (cI, 160, .inl (fun _ => 0))), (aq23, .inl (cI, 8, .inl (fun _ => 0))), (aq24, .inl (cI, 160, .inl (fun _ => 0))), (aq25, .inr (4, [.ref aq21, .ref aq1, .ref aq26, .ref aq27, .ref aq28, .ref aq29, .int 1, .int 0])), (aq26, .inl (cI, 64, .inl (fun _ => 0))), (aq27, .inl (cI, 64, .inl (fun _ => 0))), (aq28, .inl (cI, 4096, .inl (fun _ => 0))), (aq29, .inl (cI, 4096, .inl (fun _ => 0))), (aq30, .inr (0, [.ref aq25, .ref aq15, .ref aq31, .ref aq32, .ref aq33, .ref aq34, .ref aq35, .ref aq36, .int 0, .int (-1), .int 0, .int 0, .int 0])), (aq31, .inl (cI, 350, .inl (fun _ => 0))), (aq32, .inl (cI, 1400, .inl (fun _ => 0))), (aq33, .inl (cI, 3159, .inl (fun _ => 0))), (aq34, .inl (cI, 3159, .inl (fun _ => 0))), (aq35, .inl (cI, 1024, .inl (fun _ => 0))), (aq36, .inl (cI, 350, .inl (fun _ => 0))), (aq37, .inr (7, [.int 0, .int 0, .ref aq38, .ref aq39, .ref aq40, .ref aq41])), (aq38, .inl (cI, 20, .inl (fun _ => 0))), (aq39, .inl (cI, 20, .inl (fun _ => 0))), (aq40, .inl (cI, 20, .inl (fun _ => 0))), (aq41, .inl (cI, 24, .inl (fun _ => 0))), (aq42, .inr (2, [.ref aq37, .ref aq25, .ref aq30, .ref aq15, .ref aq17, .ref aq43, .ref aq44, .ref aq45, .int 0])), (aq43, .inl (cI, 8, .inl (fun _ => 0))), (aq44, .inl (cI, 8, .inl (fun _ => 0))), (aq45, .inl (cI, 8, .inl (fun _ => 0))), (aq46, .inr (1, [.int 0, .ref aq47, .ref aq48])), (aq47, .inl (cI, 12, .inl (fun _ => 0))), (aq48, .inl (cI, 12, .inl (fun _ => 0))), (aq49, .inr (8, [.ref aq37, .ref aq50, .ref aq51, .ref aq52, .ref aq53])), (aq50, .inl (cI, 6, .inl (upd (upd (upd (upd (upd (upd (fun _ => 0) 0 (-2)) 1 (-2)) 2 (-2)) 3 (-2)) 4 (-2)) 5 (-2)))), (aq51, .inl (cI, 6, .inl (fun _ => 0))), (aq52, .inl (cI, 6, .inl (upd (upd (upd (upd (upd (upd (fun _ => 0) 0 (-1)) 1 (-1)) 2 (-1)) 3 (-1)) 4 (-1)) 5 (-1)))), (aq53, .inl (cL, 360, .inr (.inl (fun _ => 0)))), (aq54, .inl (cI, 8, .inl (fun _ => 0)))] := hD
  refine W.widen (k := 55) (n := 19647) (Nat.le_of_ble_eq_true rfl) (Nat.le_of_ble_eq_true rfl) ?_
  refine lv_astore_n (lv' := [(1, .ref u0), (0, .ref b)]) hx hb dL_law_7 rfl hl (of_decide_eq_true rfl) rfl (fun ls hl => ?_)
  refine va_new (ci := 11) (fs := [.null, .null, .null, .null, .int 0, .int 0, .int 0, .null, .null, .int 0, .int 0, .null, .int 0, .int 0, .null, .int 0, .null, .null, .int 0, .int 0, .int 0, .int 0, .int 0, .null, .null, .int 0, .int 0, .int 0, .null, .null, .int 0, .int 0, .int 0, .null, .null, .null, .null, .int 0, .null, .null, .null, .null, .int 0, .null, .null, .int 0, .int 0, .int 0, .null, .null, .int 0, .null, .null, .null, .null, .int 0, .int 0, .int 0, .null, .null, .null, .null]) (C := RX12) (T := TX12) (N := 62) hx hb hts inlX12 tyX12 tyX12_ok hown (hts _ kw_1_3) (hts (.instantiable RX12 62) kw_1_4) (hts (.initialized RX12) kw_1_5) hK hP hD hS hA rfl (jdef_12) (Nat.le_of_ble_eq_true rfl) (Nat.le_of_ble_eq_true rfl) dL_law_8 (fun v0 H hP hD hS => ?_)
  have hP : va_P D vwCl [(u0, .inr (10, [.ref aq1, .ref aq8, .ref aq15, .ref aq17, .ref aq21, .ref aq25, .ref aq30, .ref aq37, .ref aq42, .ref aq46, .ref aq49, .ref aq54])), (aq1, .inr (3, [.int 0, .int 0, .int 0, .int 0, .ref aq2, .ref aq3, .ref aq4, .ref aq5, .ref aq6, .ref aq7])), (aq2, .inl (cI, 68, .inl (fun _ => 0))), (aq3, .inl (cI, 4, .inl (fun _ => 0))), (aq4, .inl (cI, 4, .inl (fun _ => 0))), (aq5, .inl (cI, 40, .inl (fun _ => 0))), (aq6, .inl (cI, 40, .inl (fun _ => 0))), (aq7, .inl (cI, 40, .inl (fun _ => 0))), (aq8, .inr (6, [.int 0, .int 0, .int 0, .ref aq9, .ref aq10, .ref aq11])), (aq9, .inl (cI, 80, .inl (fun _ => 0))), (aq10, .inl (cI, 8, .inl (fun _ => 0))), (aq11, .inr (9, [.int 0, .int 0, .ref aq12, .ref aq13, .ref aq14])), (aq12, .inl (cI, 160, .inl (fun _ => 0))), (aq13, .inl (cI, 8, .inl (fun _ => 0))), (aq14, .inl (cI, 160, .inl (fun _ => 0))), (aq15, .inr (5, [.int 1, .int 8, .int 0, .ref aq16])), (aq16, .inl (cI, 8, .inl (fun _ => 0))), (aq17, .inr (9, [.int 0, .int 0, .ref aq18, .ref aq19, .ref aq20])), (aq18, .inl (cI, 160, .inl (fun _ => 0))), (aq19, .inl (cI, 8, .inl (fun _ => 0))), (aq20, .inl (cI, 160, .inl (fun _ => 0))), (aq21, .inr (9, [.int 0, .int 0, .ref aq22, .ref aq23, .ref aq24])), (aq22, .inl (cI, 160, .inl (fun _ => 0))), (aq23, .inl (cI, 8, .inl (fun _ => 0))), (aq24, .inl (cI, 160, .inl (fun _ => 0))), (aq25, .inr (4, [.ref aq21, .ref aq1, .ref aq26, .ref aq27, .ref aq28, .ref aq29, .int 1, .int 0])), (aq26, .inl (cI, 64, .inl (fun _ => 0))), (aq27, .inl (cI, 64, .inl (fun _ => 0))), (aq28, .inl (cI, 4096, .inl (fun _ => 0))), (aq29, .inl (cI, 4096, .inl (fun _ => 0))), (aq30, .inr (0, [.ref aq25, .ref aq15, .ref aq31, .ref aq32, .ref aq33, .ref aq34, .ref aq35, .ref aq36, .int 0, .int (-1), .int 0, .int 0, .int 0])), (aq31, .inl (cI, 350, .inl (fun _ => 0))), (aq32, .inl (cI, 1400, .inl (fun _ => 0))), (aq33, .inl (cI, 3159, .inl (fun _ => 0))), (aq34, .inl (cI, 3159, .inl (fun _ => 0))), (aq35, .inl (cI, 1024, .inl (fun _ => 0))), (aq36, .inl (cI, 350, .inl (fun _ => 0))), (aq37, .inr (7, [.int 0, .int 0, .ref aq38, .ref aq39, .ref aq40, .ref aq41])), (aq38, .inl (cI, 20, .inl (fun _ => 0))), (aq39, .inl (cI, 20, .inl (fun _ => 0))), (aq40, .inl (cI, 20, .inl (fun _ => 0))), (aq41, .inl (cI, 24, .inl (fun _ => 0))), (aq42, .inr (2, [.ref aq37, .ref aq25, .ref aq30, .ref aq15, .ref aq17, .ref aq43, .ref aq44, .ref aq45, .int 0])), (aq43, .inl (cI, 8, .inl (fun _ => 0))), (aq44, .inl (cI, 8, .inl (fun _ => 0))), (aq45, .inl (cI, 8, .inl (fun _ => 0))), (aq46, .inr (1, [.int 0, .ref aq47, .ref aq48])), (aq47, .inl (cI, 12, .inl (fun _ => 0))), (aq48, .inl (cI, 12, .inl (fun _ => 0))), (aq49, .inr (8, [.ref aq37, .ref aq50, .ref aq51, .ref aq52, .ref aq53])), (aq50, .inl (cI, 6, .inl (upd (upd (upd (upd (upd (upd (fun _ => 0) 0 (-2)) 1 (-2)) 2 (-2)) 3 (-2)) 4 (-2)) 5 (-2)))), (aq51, .inl (cI, 6, .inl (fun _ => 0))), (aq52, .inl (cI, 6, .inl (upd (upd (upd (upd (upd (upd (fun _ => 0) 0 (-1)) 1 (-1)) 2 (-1)) 3 (-1)) 4 (-1)) 5 (-1)))), (aq53, .inl (cL, 360, .inr (.inl (fun _ => 0)))), (aq54, .inl (cI, 8, .inl (fun _ => 0))), (v0, .inr (11, [.null, .null, .null, .null, .int 0, .int 0, .int 0, .null, .null, .int 0, .int 0, .null, .int 0, .int 0, .null, .int 0, .null, .null, .int 0, .int 0, .int 0, .int 0, .int 0, .null, .null, .int 0, .int 0, .int 0, .null, .null, .int 0, .int 0, .int 0, .null, .null, .null, .null, .int 0, .null, .null, .null, .null, .int 0, .null, .null, .int 0, .int 0, .int 0, .null, .null, .int 0, .null, .null, .null, .null, .int 0, .int 0, .int 0, .null, .null, .null, .null]))] H := hP
  have hD : va_D (fun q : Nat => s.heap.size ≤ q) [(u0, .inr (10, [.ref aq1, .ref aq8, .ref aq15, .ref aq17, .ref aq21, .ref aq25, .ref aq30, .ref aq37, .ref aq42, .ref aq46, .ref aq49, .ref aq54])), (aq1, .inr (3, [.int 0, .int 0, .int 0, .int 0, .ref aq2, .ref aq3, .ref aq4, .ref aq5, .ref aq6, .ref aq7])), (aq2, .inl (cI, 68, .inl (fun _ => 0))), (aq3, .inl (cI, 4, .inl (fun _ => 0))), (aq4, .inl (cI, 4, .inl (fun _ => 0))), (aq5, .inl (cI, 40, .inl (fun _ => 0))), (aq6, .inl (cI, 40, .inl (fun _ => 0))), (aq7, .inl (cI, 40, .inl (fun _ => 0))), (aq8, .inr (6, [.int 0, .int 0, .int 0, .ref aq9, .ref aq10, .ref aq11])), (aq9, .inl (cI, 80, .inl (fun _ => 0))), (aq10, .inl (cI, 8, .inl (fun _ => 0))), (aq11, .inr (9, [.int 0, .int 0, .ref aq12, .ref aq13, .ref aq14])), (aq12, .inl (cI, 160, .inl (fun _ => 0))), (aq13, .inl (cI, 8, .inl (fun _ => 0))), (aq14, .inl (cI, 160, .inl (fun _ => 0))), (aq15, .inr (5, [.int 1, .int 8, .int 0, .ref aq16])), (aq16, .inl (cI, 8, .inl (fun _ => 0))), (aq17, .inr (9, [.int 0, .int 0, .ref aq18, .ref aq19, .ref aq20])), (aq18, .inl (cI, 160, .inl (fun _ => 0))), (aq19, .inl (cI, 8, .inl (fun _ => 0))), (aq20, .inl (cI, 160, .inl (fun _ => 0))), (aq21, .inr (9, [.int 0, .int 0, .ref aq22, .ref aq23, .ref aq24])), (aq22, .inl (cI, 160, .inl (fun _ => 0))), (aq23, .inl (cI, 8, .inl (fun _ => 0))), (aq24, .inl (cI, 160, .inl (fun _ => 0))), (aq25, .inr (4, [.ref aq21, .ref aq1, .ref aq26, .ref aq27, .ref aq28, .ref aq29, .int 1, .int 0])), (aq26, .inl (cI, 64, .inl (fun _ => 0))), (aq27, .inl (cI, 64, .inl (fun _ => 0))), (aq28, .inl (cI, 4096, .inl (fun _ => 0))), (aq29, .inl (cI, 4096, .inl (fun _ => 0))), (aq30, .inr (0, [.ref aq25, .ref aq15, .ref aq31, .ref aq32, .ref aq33, .ref aq34, .ref aq35, .ref aq36, .int 0, .int (-1), .int 0, .int 0, .int 0])), (aq31, .inl (cI, 350, .inl (fun _ => 0))), (aq32, .inl (cI, 1400, .inl (fun _ => 0))), (aq33, .inl (cI, 3159, .inl (fun _ => 0))), (aq34, .inl (cI, 3159, .inl (fun _ => 0))), (aq35, .inl (cI, 1024, .inl (fun _ => 0))), (aq36, .inl (cI, 350, .inl (fun _ => 0))), (aq37, .inr (7, [.int 0, .int 0, .ref aq38, .ref aq39, .ref aq40, .ref aq41])), (aq38, .inl (cI, 20, .inl (fun _ => 0))), (aq39, .inl (cI, 20, .inl (fun _ => 0))), (aq40, .inl (cI, 20, .inl (fun _ => 0))), (aq41, .inl (cI, 24, .inl (fun _ => 0))), (aq42, .inr (2, [.ref aq37, .ref aq25, .ref aq30, .ref aq15, .ref aq17, .ref aq43, .ref aq44, .ref aq45, .int 0])), (aq43, .inl (cI, 8, .inl (fun _ => 0))), (aq44, .inl (cI, 8, .inl (fun _ => 0))), (aq45, .inl (cI, 8, .inl (fun _ => 0))), (aq46, .inr (1, [.int 0, .ref aq47, .ref aq48])), (aq47, .inl (cI, 12, .inl (fun _ => 0))), (aq48, .inl (cI, 12, .inl (fun _ => 0))), (aq49, .inr (8, [.ref aq37, .ref aq50, .ref aq51, .ref aq52, .ref aq53])), (aq50, .inl (cI, 6, .inl (upd (upd (upd (upd (upd (upd (fun _ => 0) 0 (-2)) 1 (-2)) 2 (-2)) 3 (-2)) 4 (-2)) 5 (-2)))), (aq51, .inl (cI, 6, .inl (fun _ => 0))), (aq52, .inl (cI, 6, .inl (upd (upd (upd (upd (upd (upd (fun _ => 0) 0 (-1)) 1 (-1)) 2 (-1)) 3 (-1)) 4 (-1)) 5 (-1)))), (aq53, .inl (cL, 360, .inr (.inl (fun _ => 0)))), (aq54, .inl (cI, 8, .inl (fun _ => 0))), (v0, .inr (11, [.null, .null, .null, .null, .int 0, .int 0, .int 0, .null, .null, .int 0, .int 0, .null, .int 0, .int 0, .null, .int 0, .null, .null, .int 0, .int 0, .int 0, .int 0, .int 0, .null, .null, .int 0, .int 0, .int 0, .null, .null, .int 0, .int 0, .int 0, .null, .null, .null, .null, .int 0, .null, .null, .null, .null, .int 0, .null, .null, .int 0, .int 0, .int 0, .null, .null, .int 0, .null, .null, .null, .null, .int 0, .int 0, .int 0, .null, .null, .null, .null]))] := hD
  refine W.widen (k := 56) (n := 19709) (Nat.le_of_ble_eq_true rfl) (Nat.le_of_ble_eq_true rfl) ?_
  refine lv_dup hx hb dL_law_11 rfl ?_
  have hPc := hP.sub (ws' := [(v0, .inr (11, [.null, .null, .null, .null, .int 0, .int 0, .int 0, .null, .null, .int 0, .int 0, .null, .int 0, .int 0, .null, .int 0, .null, .null, .int 0, .int 0, .int 0, .int 0, .int 0, .null, .null, .int 0, .int 0, .int 0, .null, .null, .int 0, .int 0, .int 0, .null, .null, .null, .null, .int 0, .null, .null, .null, .null, .int 0, .null, .null, .int 0, .int 0, .int 0, .null, .null, .int 0, .null, .null, .null, .null, .int 0, .int 0, .int 0, .null, .null, .null, .null]))]) [55] rfl
  have hDc := hD.sub (ws' := [(v0, .inr (11, [.null, .null, .null, .null, .int 0, .int 0, .int 0, .null, .null, .int 0, .int 0, .null, .int 0, .int 0, .null, .int 0, .null, .null, .int 0, .int 0, .int 0, .int 0, .int 0, .null, .null, .int 0, .int 0, .int 0, .null, .null, .int 0, .int 0, .int 0, .null, .null, .null, .null, .int 0, .null, .null, .null, .null, .int 0, .null, .null, .int 0, .int 0, .int 0, .null, .null, .int 0, .null, .null, .null, .null, .int 0, .int 0, .int 0, .null, .null, .null, .null]))]) [55] (of_decide_eq_true rfl) rfl
  have hFc := va_free (wc := [(v0, .inr (11, [.null, .null, .null, .null, .int 0, .int 0, .int 0, .null, .null, .int 0, .int 0, .null, .int 0, .int 0, .null, .int 0, .null, .null, .int 0, .int 0, .int 0, .int 0, .int 0, .null, .null, .int 0, .int 0, .int 0, .null, .null, .int 0, .int 0, .int 0, .null, .null, .null, .null, .int 0, .null, .null, .null, .null, .int 0, .null, .null, .int 0, .int 0, .int 0, .null, .null, .int 0, .null, .null, .null, .null, .int 0, .int 0, .int 0, .null, .null, .null, .null]))]) hD hS hA [55] rfl
  refine va_callv (va_runI (As := []) (rest := [.ref v0]) ⟨hx, hb, hml, hown, hts⟩ (k_X12_init l D cI cL v0 H.size) (cwI 0 hts (jgoodL kw_7_0) rfl rfl rfl (hts _ kw_1_5) (hts _ kw_6_22) (hts _ kw_6_23) rfl (by decide +kernel) ⟨Nat.le_of_ble_eq_true rfl, Nat.le_of_ble_eq_true rfl⟩) ⟨fun a U g mk q => by obtain ⟨q0, q1, qP, qK, qD⟩ := q; exact ⟨q0, q1, qP, va_K.moved (u := U) (U := U.calling g mk a) (Vm.Alike.refl U.vm) qK, qD⟩, fun U hU hW => ⟨rfl, by rw [hU], by rw [hU]; exact hPc, va_K.moved hW.alike hK, hDc.weaken (fun _ _ _ _ => trivial)⟩⟩ rfl rfl hl.1 rfl (lv_room (Nat.le_of_ble_eq_true rfl)) dL_law_12 ⟨Nat.le_of_ble_eq_true rfl, Nat.le_of_ble_eq_true rfl⟩) hS (fun q _ h => hFc q h) hFc (fun u t H1 locs ht hvm hw hB hz1 hk1 hS => ?_)
  refine Exists.elim hB (fun mq1 hB2 => ?_)
  clear hB
  refine Exists.elim hB2 (fun mq2 hB => ?_)
  clear hB2
  refine Exists.elim hB (fun mq3 hB2 => ?_)
  clear hB
  refine Exists.elim hB2 (fun mq4 hB => ?_)
  clear hB2
  refine Exists.elim hB (fun mq5 hB2 => ?_)
  clear hB
  refine Exists.elim hB2 (fun mq6 hB => ?_)
  clear hB2
  refine Exists.elim hB (fun mq7 hB2 => ?_)
  clear hB
  refine Exists.elim hB2 (fun mq8 hB => ?_)
  clear hB2
  refine Exists.elim hB (fun mq9 hB2 => ?_)
  clear hB
  refine Exists.elim hB2 (fun mq10 hB => ?_)
  clear hB2
  refine Exists.elim hB (fun mq11 hB2 => ?_)
  clear hB
  refine Exists.elim hB2 (fun mq12 hB => ?_)
  clear hB2
  refine Exists.elim hB (fun mq13 hB2 => ?_)
  clear hB
  refine Exists.elim hB2 (fun mq14 hB => ?_)
  clear hB2
  refine Exists.elim hB (fun mq15 hB2 => ?_)
  clear hB
  refine Exists.elim hB2 (fun mq16 hB => ?_)
  clear hB2
  refine Exists.elim hB (fun mq17 hB2 => ?_)
  clear hB
  refine Exists.elim hB2 (fun mq18 hB => ?_)
  clear hB2
  refine Exists.elim hB (fun mq19 hB2 => ?_)
  clear hB
  refine Exists.elim hB2 (fun mq20 hB => ?_)
  clear hB2
  refine Exists.elim hB (fun mq21 hB2 => ?_)
  clear hB
  refine Exists.elim hB2 (fun mq22 hB => ?_)
  clear hB2
  refine Exists.elim hB (fun mq23 hB2 => ?_)
  clear hB
  refine Exists.elim hB2 (fun mq24 hB => ?_)
  clear hB2
  refine Exists.elim hB (fun mq25 hB2 => ?_)
  clear hB
  refine Exists.elim hB2 (fun mq26 hB => ?_)
  clear hB2
  refine Exists.elim hB (fun mq27 hB2 => ?_)
  clear hB
  refine Exists.elim hB2 (fun mq28 hB => ?_)
  clear hB2
  refine Exists.elim hB (fun mq29 hB2 => ?_)
  clear hB
  refine Exists.elim hB2 (fun mq30 hB => ?_)
  clear hB2
  refine Exists.elim hB (fun mq31 hB2 => ?_)
  clear hB
  refine Exists.elim hB2 (fun mq32 hB => ?_)
  clear hB2
  refine Exists.elim hB (fun mq33 hB2 => ?_)
  clear hB
  refine Exists.elim hB2 (fun mq34 hB => ?_)
  clear hB2
  obtain ⟨hP1, hK1, hD1⟩ := hB
  rw [ht] at hP1
  obtain ⟨hP, hD⟩ := va_join (wr := [(u0, .inr (10, [.ref aq1, .ref aq8, .ref aq15, .ref aq17, .ref aq21, .ref aq25, .ref aq30, .ref aq37, .ref aq42, .ref aq46, .ref aq49, .ref aq54])), (aq1, .inr (3, [.int 0, .int 0, .int 0, .int 0, .ref aq2, .ref aq3, .ref aq4, .ref aq5, .ref aq6, .ref aq7])), (aq2, .inl (cI, 68, .inl (fun _ => 0))), (aq3, .inl (cI, 4, .inl (fun _ => 0))), (aq4, .inl (cI, 4, .inl (fun _ => 0))), (aq5, .inl (cI, 40, .inl (fun _ => 0))), (aq6, .inl (cI, 40, .inl (fun _ => 0))), (aq7, .inl (cI, 40, .inl (fun _ => 0))), (aq8, .inr (6, [.int 0, .int 0, .int 0, .ref aq9, .ref aq10, .ref aq11])), (aq9, .inl (cI, 80, .inl (fun _ => 0))), (aq10, .inl (cI, 8, .inl (fun _ => 0))), (aq11, .inr (9, [.int 0, .int 0, .ref aq12, .ref aq13, .ref aq14])), (aq12, .inl (cI, 160, .inl (fun _ => 0))), (aq13, .inl (cI, 8, .inl (fun _ => 0))), (aq14, .inl (cI, 160, .inl (fun _ => 0))), (aq15, .inr (5, [.int 1, .int 8, .int 0, .ref aq16])), (aq16, .inl (cI, 8, .inl (fun _ => 0))), (aq17, .inr (9, [.int 0, .int 0, .ref aq18, .ref aq19, .ref aq20])), (aq18, .inl (cI, 160, .inl (fun _ => 0))), (aq19, .inl (cI, 8, .inl (fun _ => 0))), (aq20, .inl (cI, 160, .inl (fun _ => 0))), (aq21, .inr (9, [.int 0, .int 0, .ref aq22, .ref aq23, .ref aq24])), (aq22, .inl (cI, 160, .inl (fun _ => 0))), (aq23, .inl (cI, 8, .inl (fun _ => 0))), (aq24, .inl (cI, 160, .inl (fun _ => 0))), (aq25, .inr (4, [.ref aq21, .ref aq1, .ref aq26, .ref aq27, .ref aq28, .ref aq29, .int 1, .int 0])), (aq26, .inl (cI, 64, .inl (fun _ => 0))), (aq27, .inl (cI, 64, .inl (fun _ => 0))), (aq28, .inl (cI, 4096, .inl (fun _ => 0))), (aq29, .inl (cI, 4096, .inl (fun _ => 0))), (aq30, .inr (0, [.ref aq25, .ref aq15, .ref aq31, .ref aq32, .ref aq33, .ref aq34, .ref aq35, .ref aq36, .int 0, .int (-1), .int 0, .int 0, .int 0])), (aq31, .inl (cI, 350, .inl (fun _ => 0))), (aq32, .inl (cI, 1400, .inl (fun _ => 0))), (aq33, .inl (cI, 3159, .inl (fun _ => 0))), (aq34, .inl (cI, 3159, .inl (fun _ => 0))), (aq35, .inl (cI, 1024, .inl (fun _ => 0))), (aq36, .inl (cI, 350, .inl (fun _ => 0))), (aq37, .inr (7, [.int 0, .int 0, .ref aq38, .ref aq39, .ref aq40, .ref aq41])), (aq38, .inl (cI, 20, .inl (fun _ => 0))), (aq39, .inl (cI, 20, .inl (fun _ => 0))), (aq40, .inl (cI, 20, .inl (fun _ => 0))), (aq41, .inl (cI, 24, .inl (fun _ => 0))), (aq42, .inr (2, [.ref aq37, .ref aq25, .ref aq30, .ref aq15, .ref aq17, .ref aq43, .ref aq44, .ref aq45, .int 0])), (aq43, .inl (cI, 8, .inl (fun _ => 0))), (aq44, .inl (cI, 8, .inl (fun _ => 0))), (aq45, .inl (cI, 8, .inl (fun _ => 0))), (aq46, .inr (1, [.int 0, .ref aq47, .ref aq48])), (aq47, .inl (cI, 12, .inl (fun _ => 0))), (aq48, .inl (cI, 12, .inl (fun _ => 0))), (aq49, .inr (8, [.ref aq37, .ref aq50, .ref aq51, .ref aq52, .ref aq53])), (aq50, .inl (cI, 6, .inl (upd (upd (upd (upd (upd (upd (fun _ => 0) 0 (-2)) 1 (-2)) 2 (-2)) 3 (-2)) 4 (-2)) 5 (-2)))), (aq51, .inl (cI, 6, .inl (fun _ => 0))), (aq52, .inl (cI, 6, .inl (upd (upd (upd (upd (upd (upd (fun _ => 0) 0 (-1)) 1 (-1)) 2 (-1)) 3 (-1)) 4 (-1)) 5 (-1)))), (aq53, .inl (cL, 360, .inr (.inl (fun _ => 0)))), (aq54, .inl (cI, 8, .inl (fun _ => 0)))]) (w1 := [(v0, .inr (11, [.ref mq1, .ref mq2, .ref mq3, .ref mq4, .int 0, .int 0, .int 0, .ref mq5, .ref mq6, .int 0, .int 1, .ref mq7, .int 8, .int 0, .ref mq8, .int 0, .ref mq9, .ref mq10, .int 0, .int 0, .int 0, .int 0, .int 0, .ref mq11, .ref mq12, .int 0, .int 0, .int 0, .ref mq13, .ref mq14, .int (-1), .int (-1), .int 0, .ref mq15, .ref mq16, .ref mq17, .ref mq18, .int 0, .ref mq19, .ref mq20, .ref mq21, .ref mq22, .int 0, .ref mq23, .ref mq24, .int 0, .int 0, .int 0, .ref mq25, .ref mq26, .int 0, .ref mq27, .ref mq28, .ref mq29, .ref mq30, .int 0, .int 0, .int 0, .ref mq31, .ref mq32, .ref mq33, .ref mq34])), (mq1, .inl (cI, 68, .inl (upd (upd (upd (upd (upd (upd (upd (upd (upd (upd (upd (upd (upd (upd (upd (upd (fun _ => 0) 0 100) 1 100) 2 100) 3 100) 4 100) 5 100) 6 100) 7 100) 8 100) 9 100) 10 100) 11 100) 12 100) 13 100) 14 100) 15 100))), (mq2, .inl (cI, 40, .inl (fun _ => 0))), (mq3, .inl (cI, 40, .inl (fun _ => 0))), (mq4, .inl (cI, 40, .inl (fun _ => 0))), (mq5, .inl (cI, 4, .inl (fun _ => 0))), (mq6, .inl (cI, 4, .inl (fun _ => 0))), (mq7, .inl (cI, 8, .inl (fun _ => 0))), (mq8, .inl (cI, 80, .inl (fun _ => 0))), (mq9, .inl (cI, 160, .inl (fun _ => 0))), (mq10, .inl (cI, 2, .inl (upd (upd (fun _ => 0) 0 (-1)) 1 (-1)))), (mq11, .inl (cI, 8, .inl (fun _ => 0))), (mq12, .inl (cI, 8, .inl (fun _ => 0))), (mq13, .inl (cI, 4, .inl (fun _ => 0))), (mq14, .inl (cI, 4, .inl (fun _ => 0))), (mq15, .inl (cI, 20, .inl (fun _ => 0))), (mq16, .inl (cI, 20, .inl (fun _ => 0))), (mq17, .inl (cI, 160, .inl (fun _ => 0))), (mq18, .inl (cI, 20, .inl (fun _ => 0))), (mq19, .inl (cI, 65536, .inl (fun _ => 0))), (mq20, .inl (cI, 65536, .inl (fun _ => 0))), (mq21, .inl (cI, 65536, .inl (fun _ => 0))), (mq22, .inl (cI, 65536, .inl (fun _ => 0))), (mq23, .inl (cI, 65536, .inl (fun _ => 0))), (mq24, .inl (cI, 5, .inl (fun _ => 0))), (mq25, .inl (cI, 12, .inl (fun _ => 0))), (mq26, .inl (cI, 12, .inl (fun _ => 0))), (mq27, .inl (cI, 12, .inl (fun _ => 0))), (mq28, .inl (cI, 12, .inl (fun _ => 0))), (mq29, .inl (cI, 12, .inl (fun _ => 0))), (mq30, .inl (cI, 24, .inl (fun _ => 0))), (mq31, .inl (cI, 6, .inl (upd (upd (upd (upd (upd (upd (fun _ => 0) 0 (-1)) 1 (-1)) 2 (-1)) 3 (-1)) 4 (-1)) 5 (-1)))), (mq32, .inl (cI, 6, .inl (fun _ => 0))), (mq33, .inl (cL, 360, .inr (.inl (fun _ => 0)))), (mq34, .inl (cL, 60, .inr (.inl (fun _ => 0))))]) hP hD [55] [0, 1, 2, 3, 4, 5, 6, 7, 8, 9, 10, 11, 12, 13, 14, 15, 16, 17, 18, 19, 20, 21, 22, 23, 24, 25, 26, 27, 28, 29, 30, 31, 32, 33, 34, 35, 36, 37, 38, 39, 40, 41, 42, 43, 44, 45, 46, 47, 48, 49, 50, 51, 52, 53, 54] rfl rfl (of_decide_eq_true rfl) (of_decide_eq_true rfl) hk1 hFc hP1 hD1
  generalize H1 = H at hP hS ⊢
  have hP : va_P D vwCl [(u0, .inr (10, [.ref aq1, .ref aq8, .ref aq15, .ref aq17, .ref aq21, .ref aq25, .ref aq30, .ref aq37, .ref aq42, .ref aq46, .ref aq49, .ref aq54])), (aq1, .inr (3, [.int 0, .int 0, .int 0, .int 0, .ref aq2, .ref aq3, .ref aq4, .ref aq5, .ref aq6, .ref aq7])), (aq2, .inl (cI, 68, .inl (fun _ => 0))), (aq3, .inl (cI, 4, .inl (fun _ => 0))), (aq4, .inl (cI, 4, .inl (fun _ => 0))), (aq5, .inl (cI, 40, .inl (fun _ => 0))), (aq6, .inl (cI, 40, .inl (fun _ => 0))), (aq7, .inl (cI, 40, .inl (fun _ => 0))), (aq8, .inr (6, [.int 0, .int 0, .int 0, .ref aq9, .ref aq10, .ref aq11])), (aq9, .inl (cI, 80, .inl (fun _ => 0))), (aq10, .inl (cI, 8, .inl (fun _ => 0))), (aq11, .inr (9, [.int 0, .int 0, .ref aq12, .ref aq13, .ref aq14])), (aq12, .inl (cI, 160, .inl (fun _ => 0))), (aq13, .inl (cI, 8, .inl (fun _ => 0))), (aq14, .inl (cI, 160, .inl (fun _ => 0))), (aq15, .inr (5, [.int 1, .int 8, .int 0, .ref aq16])), (aq16, .inl (cI, 8, .inl (fun _ => 0))), (aq17, .inr (9, [.int 0, .int 0, .ref aq18, .ref aq19, .ref aq20])), (aq18, .inl (cI, 160, .inl (fun _ => 0))), (aq19, .inl (cI, 8, .inl (fun _ => 0))), (aq20, .inl (cI, 160, .inl (fun _ => 0))), (aq21, .inr (9, [.int 0, .int 0, .ref aq22, .ref aq23, .ref aq24])), (aq22, .inl (cI, 160, .inl (fun _ => 0))), (aq23, .inl (cI, 8, .inl (fun _ => 0))), (aq24, .inl (cI, 160, .inl (fun _ => 0))), (aq25, .inr (4, [.ref aq21, .ref aq1, .ref aq26, .ref aq27, .ref aq28, .ref aq29, .int 1, .int 0])), (aq26, .inl (cI, 64, .inl (fun _ => 0))), (aq27, .inl (cI, 64, .inl (fun _ => 0))), (aq28, .inl (cI, 4096, .inl (fun _ => 0))), (aq29, .inl (cI, 4096, .inl (fun _ => 0))), (aq30, .inr (0, [.ref aq25, .ref aq15, .ref aq31, .ref aq32, .ref aq33, .ref aq34, .ref aq35, .ref aq36, .int 0, .int (-1), .int 0, .int 0, .int 0])), (aq31, .inl (cI, 350, .inl (fun _ => 0))), (aq32, .inl (cI, 1400, .inl (fun _ => 0))), (aq33, .inl (cI, 3159, .inl (fun _ => 0))), (aq34, .inl (cI, 3159, .inl (fun _ => 0))), (aq35, .inl (cI, 1024, .inl (fun _ => 0))), (aq36, .inl (cI, 350, .inl (fun _ => 0))), (aq37, .inr (7, [.int 0, .int 0, .ref aq38, .ref aq39, .ref aq40, .ref aq41])), (aq38, .inl (cI, 20, .inl (fun _ => 0))), (aq39, .inl (cI, 20, .inl (fun _ => 0))), (aq40, .inl (cI, 20, .inl (fun _ => 0))), (aq41, .inl (cI, 24, .inl (fun _ => 0))), (aq42, .inr (2, [.ref aq37, .ref aq25, .ref aq30, .ref aq15, .ref aq17, .ref aq43, .ref aq44, .ref aq45, .int 0])), (aq43, .inl (cI, 8, .inl (fun _ => 0))), (aq44, .inl (cI, 8, .inl (fun _ => 0))), (aq45, .inl (cI, 8, .inl (fun _ => 0))), (aq46, .inr (1, [.int 0, .ref aq47, .ref aq48])), (aq47, .inl (cI, 12, .inl (fun _ => 0))), (aq48, .inl (cI, 12, .inl (fun _ => 0))), (aq49, .inr (8, [.ref aq37, .ref aq50, .ref aq51, .ref aq52, .ref aq53])), (aq50, .inl (cI, 6, .inl (upd (upd (upd (upd (upd (upd (fun _ => 0) 0 (-2)) 1 (-2)) 2 (-2)) 3 (-2)) 4 (-2)) 5 (-2)))), (aq51, .inl (cI, 6, .inl (fun _ => 0))), (aq52, .inl (cI, 6, .inl (upd (upd (upd (upd (upd (upd (fun _ => 0) 0 (-1)) 1 (-1)) 2 (-1)) 3 (-1)) 4 (-1)) 5 (-1)))), (aq53, .inl (cL, 360, .inr (.inl (fun _ => 0)))), (aq54, .inl (cI, 8, .inl (fun _ => 0))), (v0, .inr (11, [.ref mq1, .ref mq2, .ref mq3, .ref mq4, .int 0, .int 0, .int 0, .ref mq5, .ref mq6, .int 0, .int 1, .ref mq7, .int 8, .int 0, .ref mq8, .int 0, .ref mq9, .ref mq10, .int 0, .int 0, .int 0, .int 0, .int 0, .ref mq11, .ref mq12, .int 0, .int 0, .int 0, .ref mq13, .ref mq14, .int (-1), .int (-1), .int 0, .ref mq15, .ref mq16, .ref mq17, .ref mq18, .int 0, .ref mq19, .ref mq20, .ref mq21, .ref mq22, .int 0, .ref mq23, .ref mq24, .int 0, .int 0, .int 0, .ref mq25, .ref mq26, .int 0, .ref mq27, .ref mq28, .ref mq29, .ref mq30, .int 0, .int 0, .int 0, .ref mq31, .ref mq32, .ref mq33, .ref mq34])), (mq1, .inl (cI, 68, .inl (upd (upd (upd (upd (upd (upd (upd (upd (upd (upd (upd (upd (upd (upd (upd (upd (fun _ => 0) 0 100) 1 100) 2 100) 3 100) 4 100) 5 100) 6 100) 7 100) 8 100) 9 100) 10 100) 11 100) 12 100) 13 100) 14 100) 15 100))), (mq2, .inl (cI, 40, .inl (fun _ => 0))), (mq3, .inl (cI, 40, .inl (fun _ => 0))), (mq4, .inl (cI, 40, .inl (fun _ => 0))), (mq5, .inl (cI, 4, .inl (fun _ => 0))), (mq6, .inl (cI, 4, .inl (fun _ => 0))), (mq7, .inl (cI, 8, .inl (fun _ => 0))), (mq8, .inl (cI, 80, .inl (fun _ => 0))), (mq9, .inl (cI, 160, .inl (fun _ => 0))), (mq10, .inl (cI, 2, .inl (upd (upd (fun _ => 0) 0 (-1)) 1 (-1)))), (mq11, .inl (cI, 8, .inl (fun _ => 0))), (mq12, .inl (cI, 8, .inl (fun _ => 0))), (mq13, .inl (cI, 4, .inl (fun _ => 0))), (mq14, .inl (cI, 4, .inl (fun _ => 0))), (mq15, .inl (cI, 20, .inl (fun _ => 0))), (mq16, .inl (cI, 20, .inl (fun _ => 0))), (mq17, .inl (cI, 160, .inl (fun _ => 0))), (mq18, .inl (cI, 20, .inl (fun _ => 0))), (mq19, .inl (cI, 65536, .inl (fun _ => 0))), (mq20, .inl (cI, 65536, .inl (fun _ => 0))), (mq21, .inl (cI, 65536, .inl (fun _ => 0))), (mq22, .inl (cI, 65536, .inl (fun _ => 0))), (mq23, .inl (cI, 65536, .inl (fun _ => 0))), (mq24, .inl (cI, 5, .inl (fun _ => 0))), (mq25, .inl (cI, 12, .inl (fun _ => 0))), (mq26, .inl (cI, 12, .inl (fun _ => 0))), (mq27, .inl (cI, 12, .inl (fun _ => 0))), (mq28, .inl (cI, 12, .inl (fun _ => 0))), (mq29, .inl (cI, 12, .inl (fun _ => 0))), (mq30, .inl (cI, 24, .inl (fun _ => 0))), (mq31, .inl (cI, 6, .inl (upd (upd (upd (upd (upd (upd (fun _ => 0) 0 (-1)) 1 (-1)) 2 (-1)) 3 (-1)) 4 (-1)) 5 (-1)))), (mq32, .inl (cI, 6, .inl (fun _ => 0))), (mq33, .inl (cL, 360, .inr (.inl (fun _ => 0)))), (mq34, .inl (cL, 60, .inr (.inl (fun _ => 0))))] H := hP
  have hD : va_D (fun q : Nat => s.heap.size ≤ q) [(u0, .inr (10, [.ref aq1, .ref aq8, .ref aq15, .ref aq17, .ref aq21, .ref aq25, .ref aq30, .ref aq37, .ref aq42, .ref aq46, .ref aq49, .ref aq54])), (aq1, .inr (3, [.int 0, .int 0, .int 0, .int 0, .ref aq2, .ref aq3, .ref aq4, .ref aq5, .ref aq6, .ref aq7])), (aq2, .inl (cI, 68, .inl (fun _ => 0))), (aq3, .inl (cI, 4, .inl (fun _ => 0))), (aq4, .inl (cI, 4, .inl (fun _ => 0))), (aq5, .inl (cI, 40, .inl (fun _ => 0))), (aq6, .inl (cI, 40, .inl (fun _ => 0))), (aq7, .inl (cI, 40, .inl (fun _ => 0))), (aq8, .inr (6, [.int 0, .int 0, .int 0, .ref aq9, .ref aq10, .ref aq11])), (aq9, .inl (cI, 80, .inl (fun _ => 0))), (aq10, .inl (cI, 8, .inl (fun _ => 0))), (aq11, .inr (9, [.int 0, .int 0, .ref aq12, .ref aq13, .ref aq14])), (aq12, .inl (cI, 160, .inl (fun _ => 0))), (aq13, .inl (cI, 8, .inl (fun _ => 0))), (aq14, .inl (cI, 160, .inl (fun _ => 0))), (aq15, .inr (5, [.int 1, .int 8, .int 0, .ref aq16])), (aq16, .inl (cI, 8, .inl (fun _ => 0))), (aq17, .inr (9, [.int 0, .int 0, .ref aq18, .ref aq19, .ref aq20])), (aq18, .inl (cI, 160, .inl (fun _ => 0))), (aq19, .inl (cI, 8, .inl (fun _ => 0))), (aq20, .inl (cI, 160, .inl (fun _ => 0))), (aq21, .inr (9, [.int 0, .int 0, .ref aq22, .ref aq23, .ref aq24])), (aq22, .inl (cI, 160, .inl (fun _ => 0))), (aq23, .inl (cI, 8, .inl (fun _ => 0))), (aq24, .inl (cI, 160, .inl (fun _ => 0))), (aq25, .inr (4, [.ref aq21, .ref aq1, .ref aq26, .ref aq27, .ref aq28, .ref aq29, .int 1, .int 0])), (aq26, .inl (cI, 64, .inl (fun _ => 0))), (aq27, .inl (cI, 64, .inl (fun _ => 0))), (aq28, .inl (cI, 4096, .inl (fun _ => 0))), (aq29, .inl (cI, 4096, .inl (fun _ => 0))), (aq30, .inr (0, [.ref aq25, .ref aq15, .ref aq31, .ref aq32, .ref aq33, .ref aq34, .ref aq35, .ref aq36, .int 0, .int (-1), .int 0, .int 0, .int 0])), (aq31, .inl (cI, 350, .inl (fun _ => 0))), (aq32, .inl (cI, 1400, .inl (fun _ => 0))), (aq33, .inl (cI, 3159, .inl (fun _ => 0))), (aq34, .inl (cI, 3159, .inl (fun _ => 0))), (aq35, .inl (cI, 1024, .inl (fun _ => 0))), (aq36, .inl (cI, 350, .inl (fun _ => 0))), (aq37, .inr (7, [.int 0, .int 0, .ref aq38, .ref aq39, .ref aq40, .ref aq41])), (aq38, .inl (cI, 20, .inl (fun _ => 0))), (aq39, .inl (cI, 20, .inl (fun _ => 0))), (aq40, .inl (cI, 20, .inl (fun _ => 0))), (aq41, .inl (cI, 24, .inl (fun _ => 0))), (aq42, .inr (2, [.ref aq37, .ref aq25, .ref aq30, .ref aq15, .ref aq17, .ref aq43, .ref aq44, .ref aq45, .int 0])), (aq43, .inl (cI, 8, .inl (fun _ => 0))), (aq44, .inl (cI, 8, .inl (fun _ => 0))), (aq45, .inl (cI, 8, .inl (fun _ => 0))), (aq46, .inr (1, [.int 0, .ref aq47, .ref aq48])), (aq47, .inl (cI, 12, .inl (fun _ => 0))), (aq48, .inl (cI, 12, .inl (fun _ => 0))), (aq49, .inr (8, [.ref aq37, .ref aq50, .ref aq51, .ref aq52, .ref aq53])), (aq50, .inl (cI, 6, .inl (upd (upd (upd (upd (upd (upd (fun _ => 0) 0 (-2)) 1 (-2)) 2 (-2)) 3 (-2)) 4 (-2)) 5 (-2)))), (aq51, .inl (cI, 6, .inl (fun _ => 0))), (aq52, .inl (cI, 6, .inl (upd (upd (upd (upd (upd (upd (fun _ => 0) 0 (-1)) 1 (-1)) 2 (-1)) 3 (-1)) 4 (-1)) 5 (-1)))), (aq53, .inl (cL, 360, .inr (.inl (fun _ => 0)))), (aq54, .inl (cI, 8, .inl (fun _ => 0))), (v0, .inr (11, [.ref mq1, .ref mq2, .ref mq3, .ref mq4, .int 0, .int 0, .int 0, .ref mq5, .ref mq6, .int 0, .int 1, .ref mq7, .int 8, .int 0, .ref mq8, .int 0, .ref mq9, .ref mq10, .int 0, .int 0, .int 0, .int 0, .int 0, .ref mq11, .ref mq12, .int 0, .int 0, .int 0, .ref mq13, .ref mq14, .int (-1), .int (-1), .int 0, .ref mq15, .ref mq16, .ref mq17, .ref mq18, .int 0, .ref mq19, .ref mq20, .ref mq21, .ref mq22, .int 0, .ref mq23, .ref mq24, .int 0, .int 0, .int 0, .ref mq25, .ref mq26, .int 0, .ref mq27, .ref mq28, .ref mq29, .ref mq30, .int 0, .int 0, .int 0, .ref mq31, .ref mq32, .ref mq33, .ref mq34])), (mq1, .inl (cI, 68, .inl (upd (upd (upd (upd (upd (upd (upd (upd (upd (upd (upd (upd (upd (upd (upd (upd (fun _ => 0) 0 100) 1 100) 2 100) 3 100) 4 100) 5 100) 6 100) 7 100) 8 100) 9 100) 10 100) 11 100) 12 100) 13 100) 14 100) 15 100))), (mq2, .inl (cI, 40, .inl (fun _ => 0))), (mq3, .inl (cI, 40, .inl (fun _ => 0))), (mq4, .inl (cI, 40, .inl (fun _ => 0))), (mq5, .inl (cI, 4, .inl (fun _ => 0))), (mq6, .inl (cI, 4, .inl (fun _ => 0))), (mq7, .inl (cI, 8, .inl (fun _ => 0))), (mq8, .inl (cI, 80, .inl (fun _ => 0))), (mq9, .inl (cI, 160, .inl (fun _ => 0))), (mq10, .inl (cI, 2, .inl (upd (upd (fun _ => 0) 0 (-1)) 1 (-1)))), (mq11, .inl (cI, 8, .inl (fun _ => 0))), (mq12, .inl (cI, 8, .inl (fun _ => 0))), (mq13, .inl (cI, 4, .inl (fun _ => 0))), (mq14, .inl (cI, 4, .inl (fun _ => 0))), (mq15, .inl (cI, 20, .inl (fun _ => 0))), (mq16, .inl (cI, 20, .inl (fun _ => 0))), (mq17, .inl (cI, 160, .inl (fun _ => 0))), (mq18, .inl (cI, 20, .inl (fun _ => 0))), (mq19, .inl (cI, 65536, .inl (fun _ => 0))), (mq20, .inl (cI, 65536, .inl (fun _ => 0))), (mq21, .inl (cI, 65536, .inl (fun _ => 0))), (mq22, .inl (cI, 65536, .inl (fun _ => 0))), (mq23, .inl (cI, 65536, .inl (fun _ => 0))), (mq24, .inl (cI, 5, .inl (fun _ => 0))), (mq25, .inl (cI, 12, .inl (fun _ => 0))), (mq26, .inl (cI, 12, .inl (fun _ => 0))), (mq27, .inl (cI, 12, .inl (fun _ => 0))), (mq28, .inl (cI, 12, .inl (fun _ => 0))), (mq29, .inl (cI, 12, .inl (fun _ => 0))), (mq30, .inl (cI, 24, .inl (fun _ => 0))), (mq31, .inl (cI, 6, .inl (upd (upd (upd (upd (upd (upd (fun _ => 0) 0 (-1)) 1 (-1)) 2 (-1)) 3 (-1)) 4 (-1)) 5 (-1)))), (mq32, .inl (cI, 6, .inl (fun _ => 0))), (mq33, .inl (cL, 360, .inr (.inl (fun _ => 0)))), (mq34, .inl (cL, 60, .inr (.inl (fun _ => 0))))] := hD
  refine W.widen (k := 90) (n := 348600) (Nat.le_of_ble_eq_true rfl) (Nat.le_of_ble_eq_true rfl) ?_
  refine lv_astore_n (lv' := [(2, .ref v0), (1, .ref u0), (0, .ref b)]) hx hb dL_law_15 rfl hl (of_decide_eq_true rfl) rfl (fun ls hl => ?_)
  refine lv_iconst (v := 0) hx hb dL_law_16 (of_decide_eq_true rfl) ?_
  refine lv_istore_n (lv' := [(3, .int 0), (2, .ref v0), (1, .ref u0), (0, .ref b)]) hx hb dL_law_17 rfl hl (of_decide_eq_true rfl) rfl (fun ls hl => ?_)
  obtain ⟨ad, ead⟩ : ∃ f : Nat → Nat, f = fun i => [u0, aq54, aq1, aq2, aq3, aq4, aq5, aq6, aq7, aq8, aq9, aq10, aq11, aq12, aq13, aq14, aq15, aq16, aq17, aq18, aq19, aq20, aq21, aq22, aq23, aq24, aq25, aq26, aq27, aq28, aq29, aq30, aq31, aq32, aq33, aq34, aq35, aq36, aq37, aq38, aq39, aq40, aq41, aq42, aq43, aq44, aq45, aq46, aq47, aq48, aq49, aq50, aq51, aq52, aq53, v0, mq1, mq2, mq3, mq4, mq5, mq6, mq7, mq8, mq9, mq10, mq11, mq12, mq13, mq14, mq15, mq16, mq17, mq18, mq19, mq20, mq21, mq22, mq23, mq24, mq25, mq26, mq27, mq28, mq29, mq30, mq31, mq32, mq33, mq34].getD i 0 := ⟨_, rfl⟩
  have hPj : jH D cI cL ad sg0 tu0 H := by
    rw [ead]
    exact hP.sub (ws' := jw cI cL (fun i => [u0, aq54, aq1, aq2, aq3, aq4, aq5, aq6, aq7, aq8, aq9, aq10, aq11, aq12, aq13, aq14, aq15, aq16, aq17, aq18, aq19, aq20, aq21, aq22, aq23, aq24, aq25, aq26, aq27, aq28, aq29, aq30, aq31, aq32, aq33, aq34, aq35, aq36, aq37, aq38, aq39, aq40, aq41, aq42, aq43, aq44, aq45, aq46, aq47, aq48, aq49, aq50, aq51, aq52, aq53, v0, mq1, mq2, mq3, mq4, mq5, mq6, mq7, mq8, mq9, mq10, mq11, mq12, mq13, mq14, mq15, mq16, mq17, mq18, mq19, mq20, mq21, mq22, mq23, mq24, mq25, mq26, mq27, mq28, mq29, mq30, mq31, mq32, mq33, mq34].getD i 0) sg0 tu0) [0, 54, 1, 2, 3, 4, 5, 6, 7, 8, 9, 10, 11, 12, 13, 14, 15, 16, 17, 18, 19, 20, 21, 22, 23, 24, 25, 26, 27, 28, 29, 30, 31, 32, 33, 34, 35, 36, 37, 38, 39, 40, 41, 42, 43, 44, 45, 46, 47, 48, 49, 50, 51, 52, 53, 55, 56, 57, 58, 59, 60, 61, 62, 63, 64, 65, 66, 67, 68, 69, 70, 71, 72, 73, 74, 75, 76, 77, 78, 79, 80, 81, 82, 83, 84, 85, 86, 87, 88, 89] rfl
  have hDj : va_D (fun q : Nat => s.heap.size ≤ q) (jw cI cL ad sg0 tu0) := by
    rw [ead]
    exact hD.sub (ws' := jw cI cL (fun i => [u0, aq54, aq1, aq2, aq3, aq4, aq5, aq6, aq7, aq8, aq9, aq10, aq11, aq12, aq13, aq14, aq15, aq16, aq17, aq18, aq19, aq20, aq21, aq22, aq23, aq24, aq25, aq26, aq27, aq28, aq29, aq30, aq31, aq32, aq33, aq34, aq35, aq36, aq37, aq38, aq39, aq40, aq41, aq42, aq43, aq44, aq45, aq46, aq47, aq48, aq49, aq50, aq51, aq52, aq53, v0, mq1, mq2, mq3, mq4, mq5, mq6, mq7, mq8, mq9, mq10, mq11, mq12, mq13, mq14, mq15, mq16, mq17, mq18, mq19, mq20, mq21, mq22, mq23, mq24, mq25, mq26, mq27, mq28, mq29, mq30, mq31, mq32, mq33, mq34].getD i 0) sg0 tu0) [0, 54, 1, 2, 3, 4, 5, 6, 7, 8, 9, 10, 11, 12, 13, 14, 15, 16, 17, 18, 19, 20, 21, 22, 23, 24, 25, 26, 27, 28, 29, 30, 31, 32, 33, 34, 35, 36, 37, 38, 39, 40, 41, 42, 43, 44, 45, 46, 47, 48, 49, 50, 51, 52, 53, 55, 56, 57, 58, 59, 60, 61, 62, 63, 64, 65, 66, 67, 68, 69, 70, 71, 72, 73, 74, 75, 76, 77, 78, 79, 80, 81, 82, 83, 84, 85, 86, 87, 88, 89] (of_decide_eq_true rfl) rfl
  have hlen : ∀ i, i < jn → ∃ q, (jw cI cL ad sg0 tu0)[i]? = some q ∧ q.1 = ad i := by
    intro i hi
    have hlt : i < (jw cI cL ad sg0 tu0).length := hi
    exact ⟨_, List.getElem?_eq_getElem hlt, (jw_at (List.getElem?_eq_getElem hlt)).2⟩
  have hJ : jD ad := by
    intro i j hi hj h
    obtain ⟨q1, h1, h2⟩ := hlen i hi
    obtain ⟨q2, h3, h4⟩ := hlen j hj
    exact hDj.1 i j q1 q2 h1 h3 (by rw [h2, h4, h])
  have hAj : ∀ q, jA ad q → s.heap.size ≤ q := by
    rintro q ⟨i, hi, rfl⟩
    obtain ⟨q1, h1, h2⟩ := hlen i hi
    have := hDj.2 i q1 h1
    rw [h2] at this
    exact this
  have e0 : ad 0 = u0 := by rw [ead]; rfl
  have e55 : ad 55 = v0 := by rw [ead]; rfl
  obtain ⟨zz, hZ⟩ := law_statics C1
  exact by exact law_loop l C1 hJ hAj hK hZ hL 400 0 sg0 tu0 _ _ ls (of_decide_eq_true rfl) (by rw [jz_0]; omega) (by rw [jz_0]; omega) sg_all hPj hS (by rw [e0, e55]; exact lv_sub hl [0, 1, 2, 3] rfl)

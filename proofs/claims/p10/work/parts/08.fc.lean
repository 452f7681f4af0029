set_option maxHeartbeats 4000000 in
set_option maxRecDepth 100000 in
theorem c_X12_kept (l : Launch) (D : va_G) (cI cL : ClassId) (ad zz : Nat → Nat) (hJ : jD ad) (σ : Nat → Nat → Int32) (τ : Nat → Nat → Int64) (a1 : Int32) (A1 : Int) (t1 : a1.toInt = A1) (hI101 : jI101 σ) (hI102 : jI102 σ) (hI103 : jI103 σ) (hI104 : jI104 σ) (hI105 : jI105 σ) (hI106 : jI106 σ) (hI119 : jI119 σ) (hs_jKept : jKept σ) (hs_jTR : jTR σ) (hs_jqSt : jqSt σ) (hp0 : 0 ≤ (σ 55 42).toInt ∧ (σ 55 42).toInt ≤ 999999998) : jM l yX12_kept cX12_kept 4 (some .int) ({ frames := 103, cells := 0, slots := 0, locals := 5061 }) D cI cL ad zz [.ref (ad 55), .int a1] σ τ (fun r σ' τ' => τ = τ' ∧ (∀ i : Nat, (i < 55 ∨ 55 < i) ∧ (i < 66 ∨ 66 < i) ∧ (i < 68 ∨ 69 < i) ∧ (i < 74 ∨ 78 < i) → σ' i = σ i) ∧ (∀ k : Nat, (k < 18 ∨ 18 < k) ∧ (k < 19 ∨ 19 < k) ∧ (k < 20 ∨ 20 < k) ∧ (k < 21 ∨ 21 < k) ∧ (k < 22 ∨ 22 < k) ∧ (k < 25 ∨ 25 < k) ∧ (k < 26 ∨ 26 < k) ∧ (k < 27 ∨ 27 < k) ∧ (k < 37 ∨ 37 < k) ∧ (k < 42 ∨ 42 < k) → σ' 55 k = σ 55 k) ∧ (jI119 σ') ∧ (jKept σ') ∧ (jTR σ') ∧ (jqSt σ') ∧ (((σ 55 30).toInt = -1 → (σ 55 31).toInt = -1 → jOk (σ 56) → jqKe (r : Int32).toInt (0 ≤ A1 ∧ A1 < (σ 55 6).toInt) (σ 55 12).toInt (jKp (jrK σ (σ 55 9).toInt) (A1) (σ 55 12).toInt.toNat (-1) (jqLo (σ 56) (σ 55 6).toInt (-1) 0) (fun _ => 0) 0))) ∧ ((σ 55 42).toInt ≤ (σ' 55 42).toInt) ∧ ((σ' 55 42).toInt ≤ (σ 55 42).toInt + 1) ∧ True) := by
  refine jM.of hJ (by decide +kernel) (nt := .int) rfl (Nat.le_of_ble_eq_true rfl) ?_
  intro p e s m args below meth c Q ls hC hret hl hP
  obtain ⟨hx, hb, hr, hml, hown, hts, hK, -, hlocks, hZ⟩ := hC
  have hown : s.vm.findClass RX12 = some m.cls := hown
  have hS : va_S (jA ad) s.heap s.heap [] := va_S.rf
  have hA : ∀ q, jA ad q → jA ad q := fun _ h => h
  have hl : lv_has ls 4 [(0, .ref (ad 55)), (1, .int a1)] := hl
  have g1 := jrg t1
  obtain ⟨i1, w2, w3⟩ : (0 ≤ (σ 55 6).toInt ∧ (σ 55 6).toInt ≤ 4) ∧ (∀ k : Nat, k < 4 → 0 ≤ (σ 60 k).toInt ∧ (σ 60 k).toInt ≤ 50) ∧ (∀ k : Nat, k < 4 → 0 ≤ (σ 61 k).toInt ∧ (σ 61 k).toInt ≤ 20) := id hI102
  have i4 : 0 ≤ (σ 55 9).toInt ∧ (σ 55 9).toInt ≤ 3 := hI103
  obtain ⟨i5, i6, i7, w8, w9⟩ : (1 ≤ (σ 55 10).toInt ∧ (σ 55 10).toInt ≤ 8) ∧ (1 ≤ (σ 55 12).toInt ∧ (σ 55 12).toInt ≤ 12) ∧ (0 ≤ (σ 55 13).toInt ∧ (σ 55 13).toInt ≤ 999) ∧ (∀ k : Nat, k < 8 → 0 ≤ (σ 62 k).toInt ∧ (σ 62 k).toInt ≤ 3) ∧ (∀ k : Nat, k < 8 → 0 ≤ (σ 67 k).toInt ∧ (σ 67 k).toInt ≤ 3) := id hI104
  refine lv_aload_n hx hb dX12_kept_0 rfl (lv_at hl 0 rfl) ?_
  refine lv_iload_n hx hb dX12_kept_1 rfl (lv_at hl 1 rfl) ?_
  refine jcallV (As := [.int a1]) (rest := []) ⟨hx, hb, hml, hown, hts⟩ hK hP hA hS hZ (c_X12_isBowler l D cI cL ad zz hJ σ τ a1 (A1) t1 hI102) cw_RX12_146 (jc_55 cI cL ad σ τ) rfl ⟨Nat.le_of_ble_eq_true rfl, Nat.le_of_ble_eq_true rfl⟩ rfl rfl rfl hl.1 rfl (Nat.le_of_ble_eq_true rfl) dX12_kept_2 ⟨Nat.zero_le _, Nat.zero_le _⟩ (fun r11 σ10 τ10 H locs h10 hP hS => ?_)
  obtain ⟨⟨rfl, rfl⟩, h10⟩ := h10
  rcases h10 with h12 | h13
  · obtain ⟨q15, k14⟩ := h12
    have q15 := q15.symm
    subst q15
    refine lv_if_ne (tgt := 10) hx hb dX12_kept_5 (of_decide_eq_true rfl) (fun _ => ?_) (fun c => absurd c (of_decide_eq_true rfl))
    refine lv_aload_n hx hb dX12_kept_10 rfl (lv_at hl 0 rfl) ?_
    refine va_get (D := D) hx hb hts inlX12 hown hK hP 55 (jc_55 cI cL ad σ τ) rfl 12 (of_decide_eq_true rfl) (hts _ kw_8_16) (fun _ h9 => h9) rfl dX12_kept_11 ?_
    refine lv_bipush (v := 8) hx hb dX12_kept_14 (of_decide_eq_true rfl) ?_
    refine lv_icmp_le (tgt := 22) hx hb dX12_kept_16 (of_decide_eq_true rfl) (fun c16 => ?_) (fun c16 => ?_)
    · have kc16 := jle c16 rfl jz_8
      refine lv_aload_n hx hb dX12_kept_22 rfl (lv_at hl 0 rfl) ?_
      have w17 : ∀ k : Nat, k < 4 → 0 ≤ (σ 68 k).toInt ∧ (σ 68 k).toInt ≤ 3 := hI119
      refine jcallVv (As := []) (rest := []) ⟨hx, hb, hml, hown, hts⟩ hK hP hA hS hZ (c_X12_begin l D cI cL ad zz hJ σ τ hI104 w17) cw_RX12_256 (jc_55 cI cL ad σ τ) rfl ⟨Nat.le_of_ble_eq_true rfl, Nat.le_of_ble_eq_true rfl⟩ rfl rfl rfl hl.1 rfl (Nat.le_of_ble_eq_true rfl) dX12_kept_23 ⟨Nat.zero_le _, Nat.zero_le _⟩ (fun σ18 τ18 H locs h18 hP hS => ?_)
      obtain ⟨rfl, f20, f21, I22, w23, w24, h18⟩ := h18
      obtain ⟨i26, i27, i28, i29, i30, w31⟩ : (0 ≤ (σ18 55 25).toInt) ∧ ((σ18 55 25).toInt ≤ (σ18 55 10).toInt) ∧ (0 ≤ (σ18 55 26).toInt) ∧ ((σ18 55 26).toInt ≤ (σ18 55 12).toInt) ∧ ((-1) ≤ (σ18 55 27).toInt ∧ (σ18 55 27).toInt ≤ 3) ∧ (∀ k : Nat, k < 4 → 0 ≤ (σ18 68 k).toInt ∧ (σ18 68 k).toInt ≤ 3) := id I22
      have z32 : (σ18 55 10).toInt = (σ 55 10).toInt := (congrArg Int32.toInt (show σ18 55 10 = (σ 55 10) from (f21 10 (of_decide_eq_true rfl))))
      have z33 : (σ18 55 12).toInt = (σ 55 12).toInt := (congrArg Int32.toInt (show σ18 55 12 = (σ 55 12) from (f21 12 (of_decide_eq_true rfl))))
      obtain ⟨k34, k35, k36, h18⟩ := h18
      refine lv_aload_n hx hb dX12_kept_26 rfl (lv_at hl 0 rfl) ?_
      have p37 : jqSt σ18 := jqSt.fr (f20 78 (of_decide_eq_true rfl)) (f21 42 (of_decide_eq_true rfl)) hs_jqSt
      have z38 : (σ18 55 42).toInt = (σ 55 42).toInt := (congrArg Int32.toInt (show σ18 55 42 = (σ 55 42) from (f21 42 (of_decide_eq_true rfl))))
      exact by
       refine jcallVv (As := []) (rest := []) ⟨hx, hb, hml, hown, hts⟩ hK hP hA hS hZ (c_X12_forgets l D cI cL ad zz hJ σ18 τ p37 (by omega)) cw_RX12_341 (jc_55 cI cL ad σ18 τ) rfl ⟨Nat.le_of_ble_eq_true rfl, Nat.le_of_ble_eq_true rfl⟩ rfl rfl rfl hl.1 rfl (Nat.le_of_ble_eq_true rfl) dX12_kept_27 ⟨Nat.zero_le _, Nat.zero_le _⟩ (fun σ39 τ39 H locs h39 hP hS => ?_)
       obtain ⟨rfl, f41, f42, p43, w44, h39⟩ := h39
       obtain ⟨k46, h39⟩ := h39
       have w52 : ∀ k : Nat, k < 4 → 0 ≤ (σ39 68 k).toInt ∧ (σ39 68 k).toInt ≤ 3 := (jrr_fr (f41 68 (of_decide_eq_true rfl)) w31)
       have I53 : jI119 σ39 := w52
       have z54 : (σ39 55 12).toInt = (σ 55 12).toInt := (congrArg Int32.toInt (show σ39 55 12 = (σ 55 12) from ((f42 12 (of_decide_eq_true rfl)).trans (f21 12 (of_decide_eq_true rfl)))))
       have z55 : (σ39 55 26).toInt = (σ18 55 26).toInt := (congrArg Int32.toInt (show σ39 55 26 = (σ18 55 26) from (f42 26 (of_decide_eq_true rfl))))
       have z56 : (σ39 55 25).toInt = (σ18 55 25).toInt := (congrArg Int32.toInt (show σ39 55 25 = (σ18 55 25) from (f42 25 (of_decide_eq_true rfl))))
       have z57 : (σ39 55 10).toInt = (σ 55 10).toInt := (congrArg Int32.toInt (show σ39 55 10 = (σ 55 10) from ((f42 10 (of_decide_eq_true rfl)).trans (f21 10 (of_decide_eq_true rfl)))))
       have z58 : (σ39 55 27).toInt = (σ18 55 27).toInt := (congrArg Int32.toInt (show σ39 55 27 = (σ18 55 27) from (f42 27 (of_decide_eq_true rfl))))
       have p60 : jKept σ39 := jKept.fr ((f41 75 (of_decide_eq_true rfl)).trans (f20 75 (of_decide_eq_true rfl))) ((f41 76 (of_decide_eq_true rfl)).trans (f20 76 (of_decide_eq_true rfl))) ((f41 77 (of_decide_eq_true rfl)).trans (f20 77 (of_decide_eq_true rfl))) hs_jKept
       have z61 : (σ39 55 30).toInt = (σ 55 30).toInt := (congrArg Int32.toInt (show σ39 55 30 = (σ 55 30) from ((f42 30 (of_decide_eq_true rfl)).trans (f21 30 (of_decide_eq_true rfl)))))
       have z62 : (σ39 55 31).toInt = (σ 55 31).toInt := (congrArg Int32.toInt (show σ39 55 31 = (σ 55 31) from ((f42 31 (of_decide_eq_true rfl)).trans (f21 31 (of_decide_eq_true rfl)))))
       have lp47 : ∀ (n48 : Nat)  (σ51 : Nat → Nat → Int32) (H : Heap) (locs : List Loc) (ls : Array Slot), ((σ51 55 12).toInt - (σ51 55 26).toInt : Int) < n48 → 0 ≤ (σ51 55 25).toInt → (σ51 55 25).toInt ≤ (σ51 55 10).toInt → 0 ≤ (σ51 55 26).toInt → (σ51 55 26).toInt ≤ (σ51 55 12).toInt → (-1) ≤ (σ51 55 27).toInt ∧ (σ51 55 27).toInt ≤ 3 → (σ51 55 25).toInt = 0 → (∀ i : Nat, (i < 55 ∨ 55 < i) ∧ (i < 66 ∨ 66 < i) ∧ (i < 68 ∨ 69 < i) ∧ (i < 74 ∨ 78 < i) → σ51 i = σ39 i) → (∀ k : Nat, (k < 18 ∨ 18 < k) ∧ (k < 19 ∨ 19 < k) ∧ (k < 20 ∨ 20 < k) ∧ (k < 21 ∨ 21 < k) ∧ (k < 22 ∨ 22 < k) ∧ (k < 25 ∨ 25 < k) ∧ (k < 26 ∨ 26 < k) ∧ (k < 27 ∨ 27 < k) ∧ (k < 37 ∨ 37 < k) → σ51 55 k = σ39 55 k) → jKept σ51 → jqSt σ51 → jI119 σ51 → (((σ 55 30).toInt = -1 → (σ 55 31).toInt = -1 → jOk (σ 56) → (jKp (jrK σ (σ 55 9).toInt) (A1) (σ 55 12).toInt.toNat (-1) (jqLo (σ 56) (σ 55 6).toInt (-1) 0) (fun _ => 0) 0) = jKp (jrK σ (σ 55 9).toInt) (A1) ((σ 55 12).toInt - (σ51 55 26).toInt).toNat (σ51 55 27).toInt (jrLf σ51) (jrS σ51) (σ51 55 26).toInt ∧ jrP σ51 ∧ jrM σ51)) → jH D cI cL ad σ51 τ H → va_S (jA ad) s.heap H locs → lv_has ls 4 [(0, .ref (ad 55)), (1, .int a1)] → W p l e ({ frames := 103, cells := 0, slots := 0, locals := 5061 }) s m args below meth c H locs 0 0 Q (F0 m 30 ls []) := by
         intro n48
         induction n48 with
         | zero => intro  σ51 H locs ls h63 h64 h65 h66 h67 h68 h69; exact absurd h63 (by omega)
         | succ n48 ihlp47 =>
           intro  σ51 H locs ls h63 h64 h65 h66 h67 h68 h69 f70 f71 p72 p73 p74 q75 hP hS hl
           exact by
            have z76 : (σ51 55 12).toInt = (σ 55 12).toInt := (congrArg Int32.toInt (show σ51 55 12 = (σ 55 12) from ((f71 12 (of_decide_eq_true rfl)).trans ((f42 12 (of_decide_eq_true rfl)).trans (f21 12 (of_decide_eq_true rfl))))))
            have z77 : (σ51 55 10).toInt = (σ 55 10).toInt := (congrArg Int32.toInt (show σ51 55 10 = (σ 55 10) from ((f71 10 (of_decide_eq_true rfl)).trans ((f42 10 (of_decide_eq_true rfl)).trans (f21 10 (of_decide_eq_true rfl))))))
            refine lv_aload_n hx hb dX12_kept_30 rfl (lv_at hl 0 rfl) ?_
            have I78 : jI102 σ51 := jI102_fr ((f71 6 (of_decide_eq_true rfl)).trans ((f42 6 (of_decide_eq_true rfl)).trans (f21 6 (of_decide_eq_true rfl)))) ((f70 60 (of_decide_eq_true rfl)).trans ((f41 60 (of_decide_eq_true rfl)).trans (f20 60 (of_decide_eq_true rfl)))) ((f70 61 (of_decide_eq_true rfl)).trans ((f41 61 (of_decide_eq_true rfl)).trans (f20 61 (of_decide_eq_true rfl)))) hI102
            have I79 : jI104 σ51 := jI104_fr ((f71 10 (of_decide_eq_true rfl)).trans ((f42 10 (of_decide_eq_true rfl)).trans (f21 10 (of_decide_eq_true rfl)))) ((f71 12 (of_decide_eq_true rfl)).trans ((f42 12 (of_decide_eq_true rfl)).trans (f21 12 (of_decide_eq_true rfl)))) ((f71 13 (of_decide_eq_true rfl)).trans ((f42 13 (of_decide_eq_true rfl)).trans (f21 13 (of_decide_eq_true rfl)))) ((f70 62 (of_decide_eq_true rfl)).trans ((f41 62 (of_decide_eq_true rfl)).trans (f20 62 (of_decide_eq_true rfl)))) ((f70 67 (of_decide_eq_true rfl)).trans ((f41 67 (of_decide_eq_true rfl)).trans (f20 67 (of_decide_eq_true rfl)))) hI104
            have w80 : ∀ k : Nat, k < 4 → 0 ≤ (σ51 68 k).toInt ∧ (σ51 68 k).toInt ≤ 3 := p74
            have I81 : jI120 σ51 := ⟨(by omega), (by omega), (by omega), (by omega), (by omega), w80⟩
            refine jcallV (As := []) (rest := []) ⟨hx, hb, hml, hown, hts⟩ hK hP hA hS hZ (c_X12_isEnded l D cI cL ad zz hJ σ51 τ I78 I79 I81) cw_RX12_307 (jc_55 cI cL ad σ51 τ) rfl ⟨Nat.le_of_ble_eq_true rfl, Nat.le_of_ble_eq_true rfl⟩ rfl rfl rfl hl.1 rfl (Nat.le_of_ble_eq_true rfl) dX12_kept_31 ⟨Nat.zero_le _, Nat.zero_le _⟩ (fun r83 σ82 τ82 H locs h82 hP hS => ?_)
            obtain ⟨⟨rfl, rfl⟩, h82⟩ := h82
            exact by
             rcases h82 with h84 | h85
             · obtain ⟨q87, k86⟩ := h84
               have q87 := q87.symm
               subst q87
               refine lv_if_ne (tgt := 68) hx hb dX12_kept_34 (of_decide_eq_true rfl) (fun _ => ?_) (fun c => absurd c (of_decide_eq_true rfl))
               refine lv_bipush (v := (-2)) hx hb dX12_kept_68 (of_decide_eq_true rfl) ?_
               have p88 : jTR σ51 := jTR.fr ((f70 64 (of_decide_eq_true rfl)).trans ((f41 64 (of_decide_eq_true rfl)).trans (f20 64 (of_decide_eq_true rfl)))) ((f70 65 (of_decide_eq_true rfl)).trans ((f41 65 (of_decide_eq_true rfl)).trans (f20 65 (of_decide_eq_true rfl)))) hs_jTR
               have z89 : (σ51 55 9).toInt = (σ 55 9).toInt := (congrArg Int32.toInt (show σ51 55 9 = (σ 55 9) from ((f71 9 (of_decide_eq_true rfl)).trans ((f42 9 (of_decide_eq_true rfl)).trans (f21 9 (of_decide_eq_true rfl))))))
               have z90 : (σ51 55 42).toInt = (σ39 55 42).toInt := (congrArg Int32.toInt (show σ51 55 42 = (σ39 55 42) from (f71 42 (of_decide_eq_true rfl))))
               exact by exact hret (-2) σ51 τ _ _ _ _ rfl ⟨rfl, (fun i hi => ((f70 i hi).trans ((f41 i (imp_259 i hi)).trans (f20 i (imp_256 i hi))))), (fun i hi => ((f71 i (imp_268 i hi)).trans ((f42 i (imp_261 i hi)).trans (f21 i (imp_257 i hi))))), p74, p72, p88, p73, (fun wa9 wb9 ok => Or.inr ⟨⟨by omega, by omega⟩, Or.inr ⟨by omega, by have kk := q75 wa9 wb9 ok; have kv := jrK_v (σ := σ) (v := σ51) (jrFf_eq (σ := σ) (u := σ51) ((f70 56 (of_decide_eq_true rfl)).trans ((f41 56 (of_decide_eq_true rfl)).trans (f20 56 (of_decide_eq_true rfl)))) ((f70 60 (of_decide_eq_true rfl)).trans ((f41 60 (of_decide_eq_true rfl)).trans (f20 60 (of_decide_eq_true rfl)))) ((f70 61 (of_decide_eq_true rfl)).trans ((f41 61 (of_decide_eq_true rfl)).trans (f20 61 (of_decide_eq_true rfl)))) ((f70 62 (of_decide_eq_true rfl)).trans ((f41 62 (of_decide_eq_true rfl)).trans (f20 62 (of_decide_eq_true rfl)))) ((f70 64 (of_decide_eq_true rfl)).trans ((f41 64 (of_decide_eq_true rfl)).trans (f20 64 (of_decide_eq_true rfl)))) ((f70 65 (of_decide_eq_true rfl)).trans ((f41 65 (of_decide_eq_true rfl)).trans (f20 65 (of_decide_eq_true rfl)))) ((f71 10 (of_decide_eq_true rfl)).trans ((f42 10 (of_decide_eq_true rfl)).trans (f21 10 (of_decide_eq_true rfl)))) ((f71 12 (of_decide_eq_true rfl)).trans ((f42 12 (of_decide_eq_true rfl)).trans (f21 12 (of_decide_eq_true rfl)))) ((f71 13 (of_decide_eq_true rfl)).trans ((f42 13 (of_decide_eq_true rfl)).trans (f21 13 (of_decide_eq_true rfl)))) (by omega)) (by omega); rw [kk.1]; rw [jKp.no (Or.inr (by rw [← kv, kk.2.1.fin (by omega) k86]; decide))]; decide⟩⟩), (by omega), (by omega), trivial⟩ hP hS dX12_kept_70
             · obtain ⟨q94, k91, k92, k93⟩ := h85
               have q94 := q94.symm
               subst q94
               obtain ⟨B95, k96, k97, w98⟩ := k93
               have z99 : (σ51 55 6).toInt = (σ 55 6).toInt := (congrArg Int32.toInt (show σ51 55 6 = (σ 55 6) from ((f71 6 (of_decide_eq_true rfl)).trans ((f42 6 (of_decide_eq_true rfl)).trans (f21 6 (of_decide_eq_true rfl))))))
               refine lv_if_ne (tgt := 68) hx hb dX12_kept_34 (of_decide_eq_true rfl) (fun c => absurd (of_decide_eq_true rfl) c) (fun _ => ?_)
               refine lv_aload_n hx hb dX12_kept_37 rfl (lv_at hl 0 rfl) ?_
               have p100 : jmb σ51 B95 = 1 := (jmb_fr rfl rfl rfl rfl rfl B95).trans w98
               have I101 : jI101 σ51 := jI101_fr ((f71 4 (of_decide_eq_true rfl)).trans ((f42 4 (of_decide_eq_true rfl)).trans (f21 4 (of_decide_eq_true rfl)))) ((f71 5 (of_decide_eq_true rfl)).trans ((f42 5 (of_decide_eq_true rfl)).trans (f21 5 (of_decide_eq_true rfl)))) ((f70 56 (of_decide_eq_true rfl)).trans ((f41 56 (of_decide_eq_true rfl)).trans (f20 56 (of_decide_eq_true rfl)))) ((f70 57 (of_decide_eq_true rfl)).trans ((f41 57 (of_decide_eq_true rfl)).trans (f20 57 (of_decide_eq_true rfl)))) ((f70 58 (of_decide_eq_true rfl)).trans ((f41 58 (of_decide_eq_true rfl)).trans (f20 58 (of_decide_eq_true rfl)))) ((f70 59 (of_decide_eq_true rfl)).trans ((f41 59 (of_decide_eq_true rfl)).trans (f20 59 (of_decide_eq_true rfl)))) hI101
               have I102 : jI103 σ51 := jI103_fr ((f71 9 (of_decide_eq_true rfl)).trans ((f42 9 (of_decide_eq_true rfl)).trans (f21 9 (of_decide_eq_true rfl)))) hI103
               have I103 : jI105 σ51 := jI105_fr ((f71 15 (of_decide_eq_true rfl)).trans ((f42 15 (of_decide_eq_true rfl)).trans (f21 15 (of_decide_eq_true rfl)))) ((f70 65 (of_decide_eq_true rfl)).trans ((f41 65 (of_decide_eq_true rfl)).trans (f20 65 (of_decide_eq_true rfl)))) hI105
               have I104 : jI106 σ51 := jI106_fr ((f71 32 (of_decide_eq_true rfl)).trans ((f42 32 (of_decide_eq_true rfl)).trans (f21 32 (of_decide_eq_true rfl)))) ((f70 70 (of_decide_eq_true rfl)).trans ((f41 70 (of_decide_eq_true rfl)).trans (f20 70 (of_decide_eq_true rfl)))) ((f70 71 (of_decide_eq_true rfl)).trans ((f41 71 (of_decide_eq_true rfl)).trans (f20 71 (of_decide_eq_true rfl)))) ((f70 72 (of_decide_eq_true rfl)).trans ((f41 72 (of_decide_eq_true rfl)).trans (f20 72 (of_decide_eq_true rfl)))) hI106
               have p105 : jTR σ51 := jTR.fr ((f70 64 (of_decide_eq_true rfl)).trans ((f41 64 (of_decide_eq_true rfl)).trans (f20 64 (of_decide_eq_true rfl)))) ((f70 65 (of_decide_eq_true rfl)).trans ((f41 65 (of_decide_eq_true rfl)).trans (f20 65 (of_decide_eq_true rfl)))) hs_jTR
               exact by
                refine jcallV (As := []) (rest := []) ⟨hx, hb, hml, hown, hts⟩ hK hP hA hS hZ ((c_X12_bests l D cI cL ad zz hJ 8).2.2 σ51 τ B95 p100 I101 I78 I102 I79 I103 I104 I81 p72 p105 p73 (by omega) (by omega) (by omega) (by omega)) cw_RX12_280 (jc_55 cI cL ad σ51 τ) rfl ⟨Nat.le_of_ble_eq_true rfl, Nat.le_of_ble_eq_true rfl⟩ rfl rfl rfl hl.1 rfl (Nat.le_of_ble_eq_true rfl) dX12_kept_38 ⟨Nat.zero_le _, Nat.zero_le _⟩ (fun r107 σ106 τ106 H locs h106 hP hS => ?_)
                obtain ⟨rfl, f108, f109, p110, p111, p112, w113, h106⟩ := h106
                obtain ⟨k115, h106⟩ := h106
                have h116 := h106
                obtain ⟨q118, k117⟩ := h116
                refine lv_istore_n (lv' := [(2, .int r107), (0, .ref (ad 55)), (1, .int a1)]) hx hb dX12_kept_41 rfl hl (of_decide_eq_true rfl) rfl (fun ls hl => ?_)
                refine lv_aload_n hx hb dX12_kept_42 rfl (lv_at hl 1 rfl) ?_
                refine va_get (D := D) hx hb hts inlX12 hown hK hP 55 (jc_55 cI cL ad σ106 τ) rfl 37 (of_decide_eq_true rfl) (hts _ kw_33_15) (fun _ h9 => h9) rfl dX12_kept_43 ?_
                refine lv_iload_n hx hb dX12_kept_46 rfl (lv_at hl 2 rfl) ?_
                refine lv_icmp_ne (tgt := 55) hx hb dX12_kept_47 (of_decide_eq_true rfl) (fun c119 => ?_) (fun c119 => ?_)
                · have kc119 := jne c119 rfl t1
                  refine lv_aload_n hx hb dX12_kept_55 rfl (lv_at hl 1 rfl) ?_
                  refine lv_aload_n hx hb dX12_kept_56 rfl (lv_at hl 1 rfl) ?_
                  refine va_get (D := D) hx hb hts inlX12 hown hK hP 55 (jc_55 cI cL ad σ106 τ) rfl 37 (of_decide_eq_true rfl) (hts _ kw_33_15) (fun _ h9 => h9) rfl dX12_kept_57 ?_
                  refine lv_iconst (v := 0) hx hb dX12_kept_60 (of_decide_eq_true rfl) ?_
                  have w120 : ∀ k : Nat, k < 4 → 0 ≤ (σ106 68 k).toInt ∧ (σ106 68 k).toInt ≤ 3 := (jrr_fr (f108 68 (of_decide_eq_true rfl)) w80)
                  have z121 : (σ106 55 6).toInt = (σ 55 6).toInt := (congrArg Int32.toInt (show σ106 55 6 = (σ 55 6) from ((f109 6 (of_decide_eq_true rfl)).trans ((f71 6 (of_decide_eq_true rfl)).trans ((f42 6 (of_decide_eq_true rfl)).trans (f21 6 (of_decide_eq_true rfl)))))))
                  have z122 : (σ106 55 27).toInt = (σ51 55 27).toInt := (congrArg Int32.toInt (show σ106 55 27 = (σ51 55 27) from (f109 27 (of_decide_eq_true rfl))))
                  have z123 : (σ106 55 25).toInt = (σ51 55 25).toInt := (congrArg Int32.toInt (show σ106 55 25 = (σ51 55 25) from (f109 25 (of_decide_eq_true rfl))))
                  have z124 : (σ106 55 26).toInt = (σ51 55 26).toInt := (congrArg Int32.toInt (show σ106 55 26 = (σ51 55 26) from (f109 26 (of_decide_eq_true rfl))))
                  have z125 : (σ106 68 0).toInt = (σ51 68 0).toInt := (congrArg Int32.toInt (show σ106 68 0 = (σ51 68 0) from (congrFun (f108 68 (of_decide_eq_true rfl)) 0)))
                  have z126 : (σ106 68 1).toInt = (σ51 68 1).toInt := (congrArg Int32.toInt (show σ106 68 1 = (σ51 68 1) from (congrFun (f108 68 (of_decide_eq_true rfl)) 1)))
                  have z127 : (σ106 68 2).toInt = (σ51 68 2).toInt := (congrArg Int32.toInt (show σ106 68 2 = (σ51 68 2) from (congrFun (f108 68 (of_decide_eq_true rfl)) 2)))
                  have z128 : (σ106 68 3).toInt = (σ51 68 3).toInt := (congrArg Int32.toInt (show σ106 68 3 = (σ51 68 3) from (congrFun (f108 68 (of_decide_eq_true rfl)) 3)))
                  exact by
                   refine jcallV (As := [.int (σ106 55 37), .int 0]) (rest := []) ⟨hx, hb, hml, hown, hts⟩ hK hP hA hS hZ (c_X12_goes_0 l D cI cL ad zz hJ σ106 τ (σ106 55 37) ((σ106 55 37).toInt) rfl w120 (by omega) (by omega) (by omega) (by omega) (by omega)) cw_RX12_296 (jc_55 cI cL ad σ106 τ) rfl ⟨Nat.le_of_ble_eq_true rfl, Nat.le_of_ble_eq_true rfl⟩ rfl rfl rfl hl.1 rfl (Nat.le_of_ble_eq_true rfl) dX12_kept_61 ⟨Nat.zero_le _, Nat.zero_le _⟩ (fun r130 σ129 τ129 H locs h129 hP hS => ?_)
                   obtain ⟨rfl, f131, f132, w133, w134, w135, w136, h129⟩ := h129
                   obtain ⟨k138, k139, k140, h129⟩ := h129
                   have h141 := h129
                   obtain ⟨q147, k142, k143, k144, k145, k146⟩ := h141
                   refine lv_istore_n (lv' := [(3, .int r130), (2, .int r107), (0, .ref (ad 55)), (1, .int a1)]) hx hb dX12_kept_64 rfl hl (of_decide_eq_true rfl) rfl (fun ls hl => ?_)
                   refine lv_goto (tgt := 30) hx hb dX12_kept_65 (of_decide_eq_true rfl) ?_
                   have z148 : (σ129 55 12).toInt = (σ 55 12).toInt := (congrArg Int32.toInt (show σ129 55 12 = (σ 55 12) from ((f132 12 (of_decide_eq_true rfl)).trans ((f109 12 (of_decide_eq_true rfl)).trans ((f71 12 (of_decide_eq_true rfl)).trans ((f42 12 (of_decide_eq_true rfl)).trans (f21 12 (of_decide_eq_true rfl))))))))
                   have z149 : (σ129 55 10).toInt = (σ 55 10).toInt := (congrArg Int32.toInt (show σ129 55 10 = (σ 55 10) from ((f132 10 (of_decide_eq_true rfl)).trans ((f109 10 (of_decide_eq_true rfl)).trans ((f71 10 (of_decide_eq_true rfl)).trans ((f42 10 (of_decide_eq_true rfl)).trans (f21 10 (of_decide_eq_true rfl))))))))
                   have p150 : jKept σ129 := jKept.fr (f131 75 (of_decide_eq_true rfl)) (f131 76 (of_decide_eq_true rfl)) (f131 77 (of_decide_eq_true rfl)) p110
                   have p151 : jqSt σ129 := jqSt.fr (f131 78 (of_decide_eq_true rfl)) (f132 42 (of_decide_eq_true rfl)) p112
                   have I152 : jI119 σ129 := w133
                   have z153 : (σ106 55 12).toInt = (σ 55 12).toInt := (congrArg Int32.toInt (show σ106 55 12 = (σ 55 12) from ((f109 12 (of_decide_eq_true rfl)).trans ((f71 12 (of_decide_eq_true rfl)).trans ((f42 12 (of_decide_eq_true rfl)).trans (f21 12 (of_decide_eq_true rfl)))))))
                   have z154 : (σ129 55 37).toInt = (σ106 55 37).toInt := (congrArg Int32.toInt (show σ129 55 37 = (σ106 55 37) from (f132 37 (of_decide_eq_true rfl))))
                   have z155 : (σ51 55 9).toInt = (σ 55 9).toInt := (congrArg Int32.toInt (show σ51 55 9 = (σ 55 9) from ((f71 9 (of_decide_eq_true rfl)).trans ((f42 9 (of_decide_eq_true rfl)).trans (f21 9 (of_decide_eq_true rfl))))))
                   exact by exact ihlp47  σ129 _ _ ls (by omega) (by omega) (by omega) (by omega) (by omega) (by omega) (by omega) (fun i hi => ((f131 i (imp_256 i hi)).trans ((f108 i (imp_258 i hi)).trans (f70 i hi)))) (fun i hi => ((f132 i (imp_269 i hi)).trans ((f109 i (imp_270 i hi)).trans (f71 i hi))))  p150 p151 I152 (fun wa9 wb9 ok => by have kk := q75 wa9 wb9 ok; have r9 := w113 kk.2.1 kk.2.2; have sp := jqRk_step (σ := σ) (v := σ51) (s1 := σ106) (s2 := σ129) (b := (A1)) (T := (σ 55 12).toInt) (w := (σ106 55 37)) kk.1 kk.2.1 ⟨⟨(f108 56 (of_decide_eq_true rfl)), (f108 60 (of_decide_eq_true rfl)), (f108 61 (of_decide_eq_true rfl)), (f108 62 (of_decide_eq_true rfl)), (f108 64 (of_decide_eq_true rfl)), (f108 65 (of_decide_eq_true rfl))⟩, (f109 6 (of_decide_eq_true rfl)), (f109 9 (of_decide_eq_true rfl)), (f109 10 (of_decide_eq_true rfl)), (f109 12 (of_decide_eq_true rfl)), (f109 13 (of_decide_eq_true rfl)), (f109 30 (of_decide_eq_true rfl)), (f109 31 (of_decide_eq_true rfl)), (f109 42 (of_decide_eq_true rfl))⟩ (f108 68 (of_decide_eq_true rfl)) (f108 69 (of_decide_eq_true rfl)) (f109 25 (of_decide_eq_true rfl)) (f109 26 (of_decide_eq_true rfl)) (f109 27 (of_decide_eq_true rfl)) (jrFf_eq (σ := σ) (u := σ51) ((f70 56 (of_decide_eq_true rfl)).trans ((f41 56 (of_decide_eq_true rfl)).trans (f20 56 (of_decide_eq_true rfl)))) ((f70 60 (of_decide_eq_true rfl)).trans ((f41 60 (of_decide_eq_true rfl)).trans (f20 60 (of_decide_eq_true rfl)))) ((f70 61 (of_decide_eq_true rfl)).trans ((f41 61 (of_decide_eq_true rfl)).trans (f20 61 (of_decide_eq_true rfl)))) ((f70 62 (of_decide_eq_true rfl)).trans ((f41 62 (of_decide_eq_true rfl)).trans (f20 62 (of_decide_eq_true rfl)))) ((f70 64 (of_decide_eq_true rfl)).trans ((f41 64 (of_decide_eq_true rfl)).trans (f20 64 (of_decide_eq_true rfl)))) ((f70 65 (of_decide_eq_true rfl)).trans ((f41 65 (of_decide_eq_true rfl)).trans (f20 65 (of_decide_eq_true rfl)))) ((f71 10 (of_decide_eq_true rfl)).trans ((f42 10 (of_decide_eq_true rfl)).trans (f21 10 (of_decide_eq_true rfl)))) ((f71 12 (of_decide_eq_true rfl)).trans ((f42 12 (of_decide_eq_true rfl)).trans (f21 12 (of_decide_eq_true rfl)))) ((f71 13 (of_decide_eq_true rfl)).trans ((f42 13 (of_decide_eq_true rfl)).trans (f21 13 (of_decide_eq_true rfl)))) (by omega)) (by omega) (by rw [(show ((σ106 55 37) : Int32).toInt = (σ106 55 37).toInt by omega)]; exact r9.1.1) (by omega) (by omega) ⟨⟨(f131 56 (of_decide_eq_true rfl)), (f131 60 (of_decide_eq_true rfl)), (f131 61 (of_decide_eq_true rfl)), (f131 62 (of_decide_eq_true rfl)), (f131 64 (of_decide_eq_true rfl)), (f131 65 (of_decide_eq_true rfl))⟩, (f132 6 (of_decide_eq_true rfl)), (f132 9 (of_decide_eq_true rfl)), (f132 10 (of_decide_eq_true rfl)), (f132 12 (of_decide_eq_true rfl)), (f132 13 (of_decide_eq_true rfl)), (f132 30 (of_decide_eq_true rfl)), (f132 31 (of_decide_eq_true rfl)), (f132 42 (of_decide_eq_true rfl))⟩ w134 (fun c hc => by have w9 := w136 c hc; rw [show (σ106 55 37).toInt = ((σ106 55 37) : Int32).toInt from by omega] at w9; exact w9) w135 (by omega) (by omega) (by omega) (by omega) (by omega); exact ⟨sp.1, sp.2, (jrEq.m (σ := σ106) (σ' := σ129) ⟨⟨(f131 56 (of_decide_eq_true rfl)), (f131 60 (of_decide_eq_true rfl)), (f131 61 (of_decide_eq_true rfl)), (f131 62 (of_decide_eq_true rfl)), (f131 64 (of_decide_eq_true rfl)), (f131 65 (of_decide_eq_true rfl))⟩, (f132 6 (of_decide_eq_true rfl)), (f132 9 (of_decide_eq_true rfl)), (f132 10 (of_decide_eq_true rfl)), (f132 12 (of_decide_eq_true rfl)), (f132 13 (of_decide_eq_true rfl)), (f132 30 (of_decide_eq_true rfl)), (f132 31 (of_decide_eq_true rfl)), (f132 42 (of_decide_eq_true rfl))⟩ (f131 78 (of_decide_eq_true rfl)) (f131 74 (of_decide_eq_true rfl)) (f131 75 (of_decide_eq_true rfl)) (f131 76 (of_decide_eq_true rfl)) (f131 77 (of_decide_eq_true rfl)) r9.2)⟩) hP hS (lv_sub hl [2, 3] rfl)
                · have kc119 := jeq c119 rfl t1
                  refine lv_aload_n hx hb dX12_kept_50 rfl (lv_at hl 1 rfl) ?_
                  refine va_get (D := D) hx hb hts inlX12 hown hK hP 55 (jc_55 cI cL ad σ106 τ) rfl 26 (of_decide_eq_true rfl) (hts _ kw_23_5) (fun _ h9 => h9) rfl dX12_kept_51 ?_
                  have m156 : σ106 55 26 = (σ51 55 26) := (f109 26 (of_decide_eq_true rfl))
                  refine jtopr m156 ?_
                  have I157 : jI119 σ106 := jI119_fr (f108 68 (of_decide_eq_true rfl)) p74
                  have z158 : (σ51 55 9).toInt = (σ 55 9).toInt := (congrArg Int32.toInt (show σ51 55 9 = (σ 55 9) from ((f71 9 (of_decide_eq_true rfl)).trans ((f42 9 (of_decide_eq_true rfl)).trans (f21 9 (of_decide_eq_true rfl))))))
                  have z159 : (σ106 55 26).toInt = (σ51 55 26).toInt := (congrArg Int32.toInt (show σ106 55 26 = (σ51 55 26) from m156))
                  have z160 : (σ106 55 42).toInt = (σ39 55 42).toInt := (congrArg Int32.toInt (show σ106 55 42 = (σ39 55 42) from ((f109 42 (of_decide_eq_true rfl)).trans (f71 42 (of_decide_eq_true rfl)))))
                  exact by exact hret (σ51 55 26) σ106 τ _ _ _ _ rfl ⟨rfl, (fun i hi => ((f108 i (imp_258 i hi)).trans ((f70 i hi).trans ((f41 i (imp_259 i hi)).trans (f20 i (imp_256 i hi)))))), (fun i hi => ((f109 i (imp_260 i hi)).trans ((f71 i (imp_268 i hi)).trans ((f42 i (imp_261 i hi)).trans (f21 i (imp_257 i hi)))))), I157, p110, p111, p112, (fun wa9 wb9 ok => Or.inr ⟨⟨by omega, by omega⟩, Or.inr ⟨by omega, by have kk := q75 wa9 wb9 ok; have kv := jrK_v (σ := σ) (v := σ51) (jrFf_eq (σ := σ) (u := σ51) ((f70 56 (of_decide_eq_true rfl)).trans ((f41 56 (of_decide_eq_true rfl)).trans (f20 56 (of_decide_eq_true rfl)))) ((f70 60 (of_decide_eq_true rfl)).trans ((f41 60 (of_decide_eq_true rfl)).trans (f20 60 (of_decide_eq_true rfl)))) ((f70 61 (of_decide_eq_true rfl)).trans ((f41 61 (of_decide_eq_true rfl)).trans (f20 61 (of_decide_eq_true rfl)))) ((f70 62 (of_decide_eq_true rfl)).trans ((f41 62 (of_decide_eq_true rfl)).trans (f20 62 (of_decide_eq_true rfl)))) ((f70 64 (of_decide_eq_true rfl)).trans ((f41 64 (of_decide_eq_true rfl)).trans (f20 64 (of_decide_eq_true rfl)))) ((f70 65 (of_decide_eq_true rfl)).trans ((f41 65 (of_decide_eq_true rfl)).trans (f20 65 (of_decide_eq_true rfl)))) ((f71 10 (of_decide_eq_true rfl)).trans ((f42 10 (of_decide_eq_true rfl)).trans (f21 10 (of_decide_eq_true rfl)))) ((f71 12 (of_decide_eq_true rfl)).trans ((f42 12 (of_decide_eq_true rfl)).trans (f21 12 (of_decide_eq_true rfl)))) ((f71 13 (of_decide_eq_true rfl)).trans ((f42 13 (of_decide_eq_true rfl)).trans (f21 13 (of_decide_eq_true rfl)))) (by omega)) (by omega); rw [kk.1]; have r9 := (w113 kk.2.1 kk.2.2).1.1; rw [jKp.got (by rw [← kv]; exact Or.elim (Int.lt_or_le (jrV σ51).1 0) (fun z9 => by rw [if_pos z9] at r9; omega) (fun z9 => by rw [if_neg (by omega)] at r9; omega)) (by omega) (by omega)]; first | done | (omega)⟩⟩), (by omega), (by omega), trivial⟩ hP hS dX12_kept_54
       exact by exact lp47 1000000  σ39 _ _ ls (by omega) (by omega) (by omega) (by omega) (by omega) (by omega) (by omega) (fun _ _ => rfl) (fun _ _ => rfl)  p60 p43 I53 (fun wa9 wb9 ok => by have p := jrNow2 (σ := σ) (u := σ39) ((f42 6 (of_decide_eq_true rfl)).trans (f21 6 (of_decide_eq_true rfl))) ((f42 10 (of_decide_eq_true rfl)).trans (f21 10 (of_decide_eq_true rfl))) ((f42 12 (of_decide_eq_true rfl)).trans (f21 12 (of_decide_eq_true rfl))) (by rw [show σ39 68 = σ18 68 from (f41 68 (of_decide_eq_true rfl))]; exact w24) (by rw [show σ39 69 = σ18 69 from (f41 69 (of_decide_eq_true rfl))]; exact w23) (by omega) (by omega) (by omega) (by omega) ok ((f41 56 (of_decide_eq_true rfl)).trans (f20 56 (of_decide_eq_true rfl))) (by omega) (by omega); refine ⟨?_, p.1, w44⟩; rw [show (σ39 55 26).toInt = 0 from by omega, show (σ39 55 27).toInt = -1 from by omega, show ((σ 55 12).toInt - 0).toNat = (σ 55 12).toInt.toNat from by congr 1; omega]; exact jKp.cong jrK_F _ _ _ _ _ _ _ (fun c hc => ⟨by rw [← (p.2 c hc).1]; exact (p.2 c hc).2.1, (p.2 c hc).1.symm, fun _ => (p.2 c hc).2.2.symm⟩)) hP hS hl
    · have kc16 := jnle c16 rfl jz_8
      refine lv_bipush (v := (-4)) hx hb dX12_kept_19 (of_decide_eq_true rfl) ?_
      exact by exact hret (-4) σ τ _ _ _ _ rfl ⟨rfl, (fun _ _ => rfl), (fun _ _ => rfl), hI119, hs_jKept, hs_jTR, hs_jqSt, (fun wa9 wb9 ok => Or.inr ⟨⟨by omega, by omega⟩, Or.inl ⟨by omega, by decide⟩⟩), (by omega), (by omega), trivial⟩ hP hS dX12_kept_21
  · obtain ⟨q162, k161⟩ := h13
    have q162 := q162.symm
    subst q162
    refine lv_if_ne (tgt := 10) hx hb dX12_kept_5 (of_decide_eq_true rfl) (fun c => absurd (of_decide_eq_true rfl) c) (fun _ => ?_)
    refine lv_iconst (v := (-1)) hx hb dX12_kept_8 (of_decide_eq_true rfl) ?_
    exact by exact hret (-1) σ τ _ _ _ _ rfl ⟨rfl, (fun _ _ => rfl), (fun _ _ => rfl), hI119, hs_jKept, hs_jTR, hs_jqSt, (fun wa9 wb9 ok => Or.inl ⟨fun z => by omega, by decide⟩), (by omega), (by omega), trivial⟩ hP hS dX12_kept_9
set_option maxHeartbeats 4000000 in
set_option maxRecDepth 100000 in
theorem c_X12_orders_5 (l : Launch) (D : va_G) (cI cL : ClassId) (ad zz : Nat → Nat) (hJ : jD ad) (σ : Nat → Nat → Int32) (τ : Nat → Nat → Int64) (a2 : Int32) (A2 : Int) (t2 : a2.toInt = A2) (a3 : Int32) (A3 : Int) (t3 : a3.toInt = A3) (hI101 : jI101 σ) (hI102 : jI102 σ) (hI103 : jI103 σ) (hI104 : jI104 σ) (hI105 : jI105 σ) (hI106 : jI106 σ) (hI119 : jI119 σ) (hI111 : jI111 σ) (hs_jKept : jKept σ) (hs_jTR : jTR σ) (hs_jqSt : jqSt σ) (hp0 : (σ 55 10).toInt ≤ 5) (hp1 : 5 ≤ (σ 55 10).toInt) (hp2 : (σ 55 12).toInt ≤ 8) (hp3 : 0 ≤ (σ 55 42).toInt ∧ (σ 55 42).toInt ≤ 999999998) : jMv l yX12_orders cX12_orders 6 none ({ frames := 104, cells := 0, slots := 0, locals := 5081 }) D cI cL ad zz [.ref (ad 55), .int 5, .int a2, .int a3] σ τ (fun σ' τ' => τ = τ' ∧ (∀ i : Nat, (i < 55 ∨ 55 < i) ∧ (i < 62 ∨ 62 < i) ∧ (i < 66 ∨ 66 < i) ∧ (i < 68 ∨ 69 < i) ∧ (i < 74 ∨ 78 < i) → σ' i = σ i) ∧ (∀ k : Nat, (k < 18 ∨ 18 < k) ∧ (k < 19 ∨ 19 < k) ∧ (k < 20 ∨ 20 < k) ∧ (k < 21 ∨ 21 < k) ∧ (k < 22 ∨ 22 < k) ∧ (k < 25 ∨ 25 < k) ∧ (k < 26 ∨ 26 < k) ∧ (k < 27 ∨ 27 < k) ∧ (k < 37 ∨ 37 < k) ∧ (k < 42 ∨ 42 < k) ∧ (k < 45 ∨ 45 < k) ∧ (k < 46 ∨ 46 < k) → σ' 55 k = σ 55 k) ∧ (jI104 σ') ∧ (jI119 σ') ∧ (jKept σ') ∧ (jTR σ') ∧ (jqSt σ') ∧ ((σ 55 42).toInt ≤ (σ' 55 42).toInt) ∧ ((σ' 55 42).toInt ≤ (σ 55 42).toInt + 1) ∧ True) := by
  refine jMv.of hJ (by decide +kernel) rfl (Nat.le_of_ble_eq_true rfl) ?_
  intro p e s m args below meth c Q ls hC hret hl hP
  obtain ⟨hx, hb, hr, hml, hown, hts, hK, -, hlocks, hZ⟩ := hC
  have hown : s.vm.findClass RX12 = some m.cls := hown
  have hS : va_S (jA ad) s.heap s.heap [] := va_S.rf
  have hA : ∀ q, jA ad q → jA ad q := fun _ h => h
  have hl : lv_has ls 6 [(0, .ref (ad 55)), (1, .int 5), (2, .int a2), (3, .int a3)] := hl
  have g2 := jrg t2
  have g3 := jrg t3
  obtain ⟨i1, i2, i3, w4, w5⟩ : (1 ≤ (σ 55 10).toInt ∧ (σ 55 10).toInt ≤ 8) ∧ (1 ≤ (σ 55 12).toInt ∧ (σ 55 12).toInt ≤ 12) ∧ (0 ≤ (σ 55 13).toInt ∧ (σ 55 13).toInt ≤ 999) ∧ (∀ k : Nat, k < 8 → 0 ≤ (σ 62 k).toInt ∧ (σ 62 k).toInt ≤ 3) ∧ (∀ k : Nat, k < 8 → 0 ≤ (σ 67 k).toInt ∧ (σ 67 k).toInt ≤ 3) := id hI104
  have w6 : ∀ k : Nat, k < 5 → 0 ≤ (σ 79 k).toInt ∧ (σ 79 k).toInt ≤ 3 := hI111
  refine lv_iload_n hx hb dX12_orders_0 rfl (lv_at hl 1 rfl) ?_
  refine lv_aload_n hx hb dX12_orders_1 rfl (lv_at hl 0 rfl) ?_
  refine va_get (D := D) hx hb hts inlX12 hown hK hP 55 (jc_55 cI cL ad σ τ) rfl 10 (of_decide_eq_true rfl) (hts _ kw_8_15) (fun _ h9 => h9) rfl dX12_orders_2 ?_
  exact by
   refine lv_icmp_ne (tgt := 35) hx hb dX12_orders_5 (of_decide_eq_true rfl) (fun c => absurd (jne c jz_5 rfl) (by omega)) (fun c7 => ?_)
   have kc7 := jeq c7 jz_5 rfl
   refine lv_aload_n hx hb dX12_orders_8 rfl (lv_at hl 0 rfl) ?_
   refine jcallV (As := []) (rest := []) ⟨hx, hb, hml, hown, hts⟩ hK hP hA hS hZ (c_X12_bestNow l D cI cL ad zz hJ σ τ hI101 hI102 hI103 hI104 hI105 hI106 hI119 hs_jKept hs_jTR hs_jqSt (by omega) (by omega)) cw_RX12_346 (jc_55 cI cL ad σ τ) rfl ⟨Nat.le_of_ble_eq_true rfl, Nat.le_of_ble_eq_true rfl⟩ rfl rfl rfl hl.1 rfl (Nat.le_of_ble_eq_true rfl) dX12_orders_9 ⟨Nat.zero_le _, Nat.zero_le _⟩ (fun r9 σ8 τ8 H locs h8 hP hS => ?_)
   obtain ⟨rfl, f10, f11, I12, p13, p14, p15, w16, h8⟩ := h8
   obtain ⟨k18, k19, h8⟩ := h8
   have h20 := h8
   obtain ⟨q22, k21⟩ := h20
   refine lv_istore (lv' := [(4, .int r9), (0, .ref (ad 55)), (1, .int 5), (2, .int a2), (3, .int a3)]) hx hb dX12_orders_12 hl (of_decide_eq_true rfl) rfl (fun ls hl => ?_)
   exact by
    refine lv_iload hx hb dX12_orders_14 (lv_at hl 0 rfl) ?_
    refine lv_aload_n hx hb dX12_orders_16 rfl (lv_at hl 1 rfl) ?_
    refine va_get (D := D) hx hb hts inlX12 hown hK hP 55 (jc_55 cI cL ad σ8 τ) rfl 46 (of_decide_eq_true rfl) (hts _ kw_40_17) (fun _ h9 => h9) rfl dX12_orders_17 ?_
    have m23 : σ8 55 46 = (σ 55 46) := (f11 46 (of_decide_eq_true rfl))
    refine jtopr m23 ?_
    refine lv_icmp_le (tgt := 34) hx hb dX12_orders_20 (of_decide_eq_true rfl) (fun c24 => ?_) (fun c24 => ?_)
    · have kc24 := jle c24 rfl rfl
      have I25 : jI104 σ8 := jI104_fr (f11 10 (of_decide_eq_true rfl)) (f11 12 (of_decide_eq_true rfl)) (f11 13 (of_decide_eq_true rfl)) (f10 62 (of_decide_eq_true rfl)) (f10 67 (of_decide_eq_true rfl)) hI104
      exact by exact hret σ8 τ _ _ _ _ ⟨rfl, (fun i hi => (f10 i (imp_271 i hi))), (fun i hi => (f11 i (imp_272 i hi))), I25, I12, p13, p14, p15, (by omega), (by omega), trivial⟩ hP hS dX12_orders_34
    · have kc24 := jnle c24 rfl rfl
      refine lv_aload_n hx hb dX12_orders_23 rfl (lv_at hl 1 rfl) ?_
      refine lv_iload hx hb dX12_orders_24 (lv_at hl 0 rfl) ?_
      refine jput (ty := .int) hx hb hts inlX12 tyX12 tyX12_ok nmX12 hown hK hP hJ hA hS (jc_55 cI cL ad σ8 τ) rfl (k := 46) (of_decide_eq_true rfl) (Nat.le_of_ble_eq_true rfl) (jp_55_46 cI cL ad σ8 τ r9) (hts _ kw_40_17) (fun _ h9 => h9) rfl (by decide +kernel) rfl rfl dX12_orders_26 (fun σ26 H locs eσ26 hP hS => ?_)
      refine lv_aload_n hx hb dX12_orders_29 rfl (lv_at hl 1 rfl) ?_
      refine lv_iload_n hx hb dX12_orders_30 rfl (lv_at hl 4 rfl) ?_
      refine jput (ty := .int) hx hb hts inlX12 tyX12 tyX12_ok nmX12 hown hK hP hJ hA hS (jc_55 cI cL ad σ26 τ) rfl (k := 45) (of_decide_eq_true rfl) (Nat.le_of_ble_eq_true rfl) (jp_55_45 cI cL ad σ26 τ a3) (hts _ kw_40_18) (fun _ h9 => h9) rfl (by decide +kernel) rfl rfl dX12_orders_31 (fun σ27 H locs eσ27 hP hS => ?_)
      have I28 : jI104 σ27 := jI104_fr ((jkp 10 eσ27 (of_decide_eq_true rfl)).trans ((jkp 10 eσ26 (of_decide_eq_true rfl)).trans (f11 10 (of_decide_eq_true rfl)))) ((jkp 12 eσ27 (of_decide_eq_true rfl)).trans ((jkp 12 eσ26 (of_decide_eq_true rfl)).trans (f11 12 (of_decide_eq_true rfl)))) ((jkp 13 eσ27 (of_decide_eq_true rfl)).trans ((jkp 13 eσ26 (of_decide_eq_true rfl)).trans (f11 13 (of_decide_eq_true rfl)))) ((jnp 62 eσ27 (of_decide_eq_true rfl)).trans ((jnp 62 eσ26 (of_decide_eq_true rfl)).trans (f10 62 (of_decide_eq_true rfl)))) ((jnp 67 eσ27 (of_decide_eq_true rfl)).trans ((jnp 67 eσ26 (of_decide_eq_true rfl)).trans (f10 67 (of_decide_eq_true rfl)))) hI104
      have I29 : jI119 σ27 := jI119_fr ((jnp 68 eσ27 (of_decide_eq_true rfl)).trans (jnp 68 eσ26 (of_decide_eq_true rfl))) I12
      have p30 : jKept σ27 := jKept.fr ((jnp 75 eσ27 (of_decide_eq_true rfl)).trans (jnp 75 eσ26 (of_decide_eq_true rfl))) ((jnp 76 eσ27 (of_decide_eq_true rfl)).trans (jnp 76 eσ26 (of_decide_eq_true rfl))) ((jnp 77 eσ27 (of_decide_eq_true rfl)).trans (jnp 77 eσ26 (of_decide_eq_true rfl))) p13
      have p31 : jTR σ27 := jTR.fr ((jnp 64 eσ27 (of_decide_eq_true rfl)).trans (jnp 64 eσ26 (of_decide_eq_true rfl))) ((jnp 65 eσ27 (of_decide_eq_true rfl)).trans (jnp 65 eσ26 (of_decide_eq_true rfl))) p14
      have p32 : jqSt σ27 := jqSt.fr ((jnp 78 eσ27 (of_decide_eq_true rfl)).trans (jnp 78 eσ26 (of_decide_eq_true rfl))) ((jkp 42 eσ27 (of_decide_eq_true rfl)).trans (jkp 42 eσ26 (of_decide_eq_true rfl))) p15
      have z33 : (σ27 55 42).toInt = (σ8 55 42).toInt := (congrArg Int32.toInt (show σ27 55 42 = (σ8 55 42) from ((jkp 42 eσ27 (of_decide_eq_true rfl)).trans (jkp 42 eσ26 (of_decide_eq_true rfl)))))
      exact by exact hret σ27 τ _ _ _ _ ⟨rfl, (fun i hi => ((jnp i eσ27 (imp_273 i hi)).trans ((jnp i eσ26 (imp_273 i hi)).trans (f10 i (imp_271 i hi))))), (fun i hi => ((jkp i eσ27 (imp_274 i hi)).trans ((jkp i eσ26 (imp_275 i hi)).trans (f11 i (imp_272 i hi))))), I28, I29, p30, p31, p32, (by omega), (by omega), trivial⟩ hP hS dX12_orders_34
set_option maxHeartbeats 4000000 in
set_option maxRecDepth 100000 in
theorem c_X12_orders_4 (l : Launch) (D : va_G) (cI cL : ClassId) (ad zz : Nat → Nat) (hJ : jD ad) (σ : Nat → Nat → Int32) (τ : Nat → Nat → Int64) (a2 : Int32) (A2 : Int) (t2 : a2.toInt = A2) (a3 : Int32) (A3 : Int) (t3 : a3.toInt = A3) (hI101 : jI101 σ) (hI102 : jI102 σ) (hI103 : jI103 σ) (hI104 : jI104 σ) (hI105 : jI105 σ) (hI106 : jI106 σ) (hI119 : jI119 σ) (hI111 : jI111 σ) (hs_jKept : jKept σ) (hs_jTR : jTR σ) (hs_jqSt : jqSt σ) (hp0 : (σ 55 10).toInt ≤ 5) (hp1 : 4 ≤ (σ 55 10).toInt) (hp2 : (σ 55 12).toInt ≤ 8) (hp3 : 0 ≤ (σ 55 42).toInt ∧ (σ 55 42).toInt ≤ 999999992) : jMv l yX12_orders cX12_orders 6 none ({ frames := 105, cells := 0, slots := 0, locals := 5106 }) D cI cL ad zz [.ref (ad 55), .int 4, .int a2, .int a3] σ τ (fun σ' τ' => τ = τ' ∧ (∀ i : Nat, (i < 55 ∨ 55 < i) ∧ (i < 62 ∨ 62 < i) ∧ (i < 66 ∨ 66 < i) ∧ (i < 68 ∨ 69 < i) ∧ (i < 74 ∨ 78 < i) → σ' i = σ i) ∧ (∀ k : Nat, (k < 18 ∨ 18 < k) ∧ (k < 19 ∨ 19 < k) ∧ (k < 20 ∨ 20 < k) ∧ (k < 21 ∨ 21 < k) ∧ (k < 22 ∨ 22 < k) ∧ (k < 25 ∨ 25 < k) ∧ (k < 26 ∨ 26 < k) ∧ (k < 27 ∨ 27 < k) ∧ (k < 37 ∨ 37 < k) ∧ (k < 42 ∨ 42 < k) ∧ (k < 45 ∨ 45 < k) ∧ (k < 46 ∨ 46 < k) → σ' 55 k = σ 55 k) ∧ (jI104 σ') ∧ (jI119 σ') ∧ (jKept σ') ∧ (jTR σ') ∧ (jqSt σ') ∧ ((σ 55 42).toInt ≤ (σ' 55 42).toInt) ∧ ((σ' 55 42).toInt ≤ (σ 55 42).toInt + 4) ∧ True) := by
  refine jMv.of hJ (by decide +kernel) rfl (Nat.le_of_ble_eq_true rfl) ?_
  intro p e s m args below meth c Q ls hC hret hl hP
  obtain ⟨hx, hb, hr, hml, hown, hts, hK, -, hlocks, hZ⟩ := hC
  have hown : s.vm.findClass RX12 = some m.cls := hown
  have hS : va_S (jA ad) s.heap s.heap [] := va_S.rf
  have hA : ∀ q, jA ad q → jA ad q := fun _ h => h
  have hl : lv_has ls 6 [(0, .ref (ad 55)), (1, .int 4), (2, .int a2), (3, .int a3)] := hl
  have g2 := jrg t2
  have g3 := jrg t3
  obtain ⟨i1, i2, i3, w4, w5⟩ : (1 ≤ (σ 55 10).toInt ∧ (σ 55 10).toInt ≤ 8) ∧ (1 ≤ (σ 55 12).toInt ∧ (σ 55 12).toInt ≤ 12) ∧ (0 ≤ (σ 55 13).toInt ∧ (σ 55 13).toInt ≤ 999) ∧ (∀ k : Nat, k < 8 → 0 ≤ (σ 62 k).toInt ∧ (σ 62 k).toInt ≤ 3) ∧ (∀ k : Nat, k < 8 → 0 ≤ (σ 67 k).toInt ∧ (σ 67 k).toInt ≤ 3) := id hI104
  have w6 : ∀ k : Nat, k < 5 → 0 ≤ (σ 79 k).toInt ∧ (σ 79 k).toInt ≤ 3 := hI111
  refine lv_iload_n hx hb dX12_orders_0 rfl (lv_at hl 1 rfl) ?_
  refine lv_aload_n hx hb dX12_orders_1 rfl (lv_at hl 0 rfl) ?_
  refine va_get (D := D) hx hb hts inlX12 hown hK hP 55 (jc_55 cI cL ad σ τ) rfl 10 (of_decide_eq_true rfl) (hts _ kw_8_15) (fun _ h9 => h9) rfl dX12_orders_2 ?_
  refine lv_icmp_ne (tgt := 35) hx hb dX12_orders_5 (of_decide_eq_true rfl) (fun c7 => ?_) (fun c7 => ?_)
  · have kc7 := jne c7 jz_4 rfl
    refine lv_iconst (v := 0) hx hb dX12_orders_35 (of_decide_eq_true rfl) ?_
    refine lv_istore (lv' := [(4, .int 0), (0, .ref (ad 55)), (1, .int 4), (2, .int a2), (3, .int a3)]) hx hb dX12_orders_36 hl (of_decide_eq_true rfl) rfl (fun ls hl => ?_)
    have lp8 : ∀ (n9 : Nat) (x10 : Int32) (σ12 : Nat → Nat → Int32) (H : Heap) (locs : List Loc) (ls : Array Slot), (-x10.toInt + 4 : Int) < n9 → 0 ≤ x10.toInt → x10.toInt ≤ 4 → (σ 55 42).toInt ≤ (σ12 55 42).toInt → (σ12 55 42).toInt ≤ (σ 55 42).toInt + x10.toInt → (∀ i : Nat, (i < 55 ∨ 55 < i) ∧ (i < 62 ∨ 62 < i) ∧ (i < 66 ∨ 66 < i) ∧ (i < 68 ∨ 69 < i) ∧ (i < 74 ∨ 78 < i) → σ12 i = σ i) → (∀ k : Nat, (k < 18 ∨ 18 < k) ∧ (k < 19 ∨ 19 < k) ∧ (k < 20 ∨ 20 < k) ∧ (k < 21 ∨ 21 < k) ∧ (k < 22 ∨ 22 < k) ∧ (k < 25 ∨ 25 < k) ∧ (k < 26 ∨ 26 < k) ∧ (k < 27 ∨ 27 < k) ∧ (k < 37 ∨ 37 < k) ∧ (k < 42 ∨ 42 < k) ∧ (k < 45 ∨ 45 < k) ∧ (k < 46 ∨ 46 < k) → σ12 55 k = σ 55 k) → jKept σ12 → jqSt σ12 → jI104 σ12 → jI119 σ12 → jH D cI cL ad σ12 τ H → va_S (jA ad) s.heap H locs → lv_has ls 6 [(4, .int x10), (0, .ref (ad 55)), (1, .int 4), (2, .int a2), (3, .int a3)] → W p l e ({ frames := 105, cells := 0, slots := 0, locals := 5106 }) s m args below meth c H locs 0 0 Q (F0 m 38 ls []) := by
      intro n9
      induction n9 with
      | zero => intro x10 σ12 H locs ls h14 h15 h16 h17 h18; exact absurd h14 (by omega)
      | succ n9 ihlp8 =>
        intro x10 σ12 H locs ls h14 h15 h16 h17 h18 f19 f20 p21 p22 p23 p24 hP hS hl
        exact by
         obtain ⟨i25, i26, i27, w28, w29⟩ : (1 ≤ (σ12 55 10).toInt ∧ (σ12 55 10).toInt ≤ 8) ∧ (1 ≤ (σ12 55 12).toInt ∧ (σ12 55 12).toInt ≤ 12) ∧ (0 ≤ (σ12 55 13).toInt ∧ (σ12 55 13).toInt ≤ 999) ∧ (∀ k : Nat, k < 8 → 0 ≤ (σ12 62 k).toInt ∧ (σ12 62 k).toInt ≤ 3) ∧ (∀ k : Nat, k < 8 → 0 ≤ (σ12 67 k).toInt ∧ (σ12 67 k).toInt ≤ 3) := id p23
         have z30 : (σ12 55 10).toInt = (σ 55 10).toInt := (congrArg Int32.toInt (show σ12 55 10 = (σ 55 10) from (f20 10 (of_decide_eq_true rfl))))
         have z31 : (σ12 55 12).toInt = (σ 55 12).toInt := (congrArg Int32.toInt (show σ12 55 12 = (σ 55 12) from (f20 12 (of_decide_eq_true rfl))))
         have z32 : (σ12 55 13).toInt = (σ 55 13).toInt := (congrArg Int32.toInt (show σ12 55 13 = (σ 55 13) from (f20 13 (of_decide_eq_true rfl))))
         refine lv_iload hx hb dX12_orders_38 (lv_at hl 0 rfl) ?_
         refine lv_iconst (v := 4) hx hb dX12_orders_40 (of_decide_eq_true rfl) ?_
         refine lv_icmp_ge (tgt := 127) hx hb dX12_orders_41 (of_decide_eq_true rfl) (fun c33 => ?_) (fun c33 => ?_)
         · have kc33 := jle c33 jz_4 rfl
           have p34 : jTR σ12 := jTR.fr (f19 64 (of_decide_eq_true rfl)) (f19 65 (of_decide_eq_true rfl)) hs_jTR
           exact by exact hret σ12 τ _ _ _ _ ⟨rfl, (fun i hi => (f19 i hi)), (fun i hi => (f20 i hi)), p23, p24, p21, p34, p22, (by omega), (by omega), trivial⟩ hP hS dX12_orders_127
         · have kc33 := jnle c33 jz_4 rfl
           refine lv_iconst (v := 0) hx hb dX12_orders_44 (of_decide_eq_true rfl) ?_
           refine lv_istore (lv' := [(5, .int 0), (4, .int x10), (0, .ref (ad 55)), (1, .int 4), (2, .int a2), (3, .int a3)]) hx hb dX12_orders_45 hl (of_decide_eq_true rfl) rfl (fun ls hl => ?_)
           have lp35 : ∀ (n36 : Nat) (x37 : Int32) (H : Heap) (locs : List Loc) (ls : Array Slot), ((σ12 55 10).toInt - x37.toInt : Int) < n36 → 0 ≤ x37.toInt → x37.toInt ≤ 5 → x37.toInt ≤ (σ12 55 10).toInt → jH D cI cL ad σ12 τ H → va_S (jA ad) s.heap H locs → lv_has ls 6 [(5, .int x37), (4, .int x10), (0, .ref (ad 55)), (1, .int 4), (2, .int a2), (3, .int a3)] → W p l e ({ frames := 105, cells := 0, slots := 0, locals := 5106 }) s m args below meth c H locs 0 0 Q (F0 m 47 ls []) := by
             intro n36
             induction n36 with
             | zero => intro x37 H locs ls h39 h40 h41 h42; exact absurd h39 (by omega)
             | succ n36 ihlp35 =>
               intro x37 H locs ls h39 h40 h41 h42 hP hS hl
               exact by
                refine lv_iload hx hb dX12_orders_47 (lv_at hl 0 rfl) ?_
                refine lv_aload_n hx hb dX12_orders_49 rfl (lv_at hl 2 rfl) ?_
                refine va_get (D := D) hx hb hts inlX12 hown hK hP 55 (jc_55 cI cL ad σ12 τ) rfl 10 (of_decide_eq_true rfl) (hts _ kw_8_15) (fun _ h9 => h9) rfl dX12_orders_50 ?_
                have m44 : σ12 55 10 = (σ 55 10) := (f20 10 (of_decide_eq_true rfl))
                refine jtopr m44 ?_
                refine lv_icmp_ge (tgt := 84) hx hb dX12_orders_53 (of_decide_eq_true rfl) (fun c45 => ?_) (fun c45 => ?_)
                · have kc45 := jle c45 rfl rfl
                  refine lv_iload hx hb dX12_orders_84 (lv_at hl 0 rfl) ?_
                  refine lv_aload_n hx hb dX12_orders_86 rfl (lv_at hl 2 rfl) ?_
                  refine va_get (D := D) hx hb hts inlX12 hown hK hP 55 (jc_55 cI cL ad σ12 τ) rfl 10 (of_decide_eq_true rfl) (hts _ kw_8_15) (fun _ h9 => h9) rfl dX12_orders_87 ?_
                  refine jtopr m44 ?_
                  exact by
                   refine lv_icmp_ge (tgt := 121) hx hb dX12_orders_90 (of_decide_eq_true rfl) (fun c46 => ?_) (fun c => absurd (jnle c rfl rfl) (by omega))
                   have kc46 := jle c46 rfl rfl
                   obtain ⟨x47, ex47⟩ : ∃ y : Int32, y = x10 + 1 := ⟨_, rfl⟩
                   have tx47 : x47.toInt = x10.toInt + 1 := (jadd ex47 rfl jz_1 (by omega) (by omega)).trans (by omega)
                   refine lv_iinc (v := x47) (lv' := [(4, .int x47), (5, .int x37), (0, .ref (ad 55)), (1, .int 4), (2, .int a2), (3, .int a3)]) hx hb dX12_orders_121 hl (k := 1) rfl (by rw [ex47]; rfl) (of_decide_eq_true rfl) rfl (fun ls hl => ?_)
                   refine lv_goto (tgt := 38) hx hb dX12_orders_124 (of_decide_eq_true rfl) ?_
                   exact by exact ihlp8 x47 σ12 _ _ ls (by have h90 := tx47; omega) (by have h90 := tx47; omega) (by have h90 := tx47; omega) (by have h90 := tx47; omega) (by have h90 := tx47; omega) (fun i hi => (f19 i hi)) (fun i hi => (f20 i hi))  p21 p22 p23 p24 hP hS (lv_sub hl [0, 2, 3, 4, 5] rfl)
                · have kc45 := jnle c45 rfl rfl
                  refine lv_iload_n hx hb dX12_orders_56 rfl (lv_at hl 4 rfl) ?_
                  exact by
                   refine lv_iload hx hb dX12_orders_57 (lv_at hl 0 rfl) ?_
                   refine lv_ishr hx hb dX12_orders_59 ?_
                   refine lv_topi (fun x48 ex48 => ?_)
                   have gx48 := jrg (rfl : x48.toInt = x48.toInt)
                   refine lv_iconst (v := 1) hx hb dX12_orders_60 (of_decide_eq_true rfl) ?_
                   refine lv_iand hx hb dX12_orders_61 ?_
                   refine lv_topi (fun x49 ex49 => ?_)
                   have gx49 := jrg (rfl : x49.toInt = x49.toInt)
                   have g50 : 0 ≤ x49.toInt ∧ x49.toInt ≤ 1 := jmask ex49 1 (of_decide_eq_true rfl) (of_decide_eq_true rfl)
                   refine lv_iconst (v := 1) hx hb dX12_orders_62 (of_decide_eq_true rfl) ?_
                   refine lv_icmp_eq (tgt := 78) hx hb dX12_orders_63 (of_decide_eq_true rfl) (fun c51 => ?_) (fun c51 => ?_)
                   · have kc51 := jeq c51 rfl jz_1
                     obtain ⟨x52, ex52⟩ : ∃ y : Int32, y = x37 + 1 := ⟨_, rfl⟩
                     exact by
                      have tx52 : x52.toInt = x37.toInt + 1 := (jadd ex52 rfl jz_1 (by omega) (by omega)).trans (by omega)
                      refine lv_iinc (v := x52) (lv' := [(5, .int x52), (4, .int x10), (0, .ref (ad 55)), (1, .int 4), (2, .int a2), (3, .int a3)]) hx hb dX12_orders_78 hl (k := 0) rfl (by rw [ex52]; rfl) (of_decide_eq_true rfl) rfl (fun ls hl => ?_)
                      refine lv_goto (tgt := 47) hx hb dX12_orders_81 (of_decide_eq_true rfl) ?_
                      exact by exact ihlp35 x52 _ _ ls (by have h90 := tx52; omega) (by have h90 := tx52; omega) (by have h90 := tx52; omega) (by have h90 := tx52; omega)    hP hS (lv_sub hl [0, 1, 2, 3, 4, 5] rfl)
                   · have kc51 := jne c51 rfl jz_1
                     refine lv_aload_n hx hb dX12_orders_66 rfl (lv_at hl 2 rfl) ?_
                     refine va_get (D := D) hx hb hts inlX12 hown hK hP 55 (jc_55 cI cL ad σ12 τ) rfl 44 (of_decide_eq_true rfl) (hts _ kw_8_4) (fun _ h9 => h9) rfl dX12_orders_67 ?_
                     refine lv_iload hx hb dX12_orders_70 (lv_at hl 0 rfl) ?_
                     refine jald hx hb hK hP (jc_79 cI cL ad σ12 τ) (jin rfl (by omega) (by omega)) dX12_orders_72 ?_
                     exact by
                      have w53 : ∀ k : Nat, k < 5 → 0 ≤ (σ12 79 k).toInt ∧ (σ12 79 k).toInt ≤ 3 := (jrr_fr (f19 79 (of_decide_eq_true rfl)) w6)
                      have g54 := w53 _ (jnat (x := x37) rfl (n := 5) (by omega) (of_decide_eq_true rfl))
                      refine lv_topi (fun x55 ex55 => ?_)
                      rw [← ex55] at g54
                      refine lv_iload hx hb dX12_orders_73 (lv_at hl 1 rfl) ?_
                      refine lv_icmp_eq (tgt := 84) hx hb dX12_orders_75 (of_decide_eq_true rfl) (fun c56 => ?_) (fun c56 => ?_)
                      · have kc56 := jeq c56 rfl rfl
                        refine lv_iload hx hb dX12_orders_84 (lv_at hl 0 rfl) ?_
                        refine lv_aload_n hx hb dX12_orders_86 rfl (lv_at hl 2 rfl) ?_
                        exact by
                         refine va_get (D := D) hx hb hts inlX12 hown hK hP 55 (jc_55 cI cL ad σ12 τ) rfl 10 (of_decide_eq_true rfl) (hts _ kw_8_15) (fun _ h9 => h9) rfl dX12_orders_87 ?_
                         refine jtopr m44 ?_
                         refine lv_icmp_ge (tgt := 121) hx hb dX12_orders_90 (of_decide_eq_true rfl) (fun c => absurd (jle c rfl rfl) (by omega)) (fun c57 => ?_)
                         have kc57 := jnle c57 rfl rfl
                         refine lv_aload_n hx hb dX12_orders_93 rfl (lv_at hl 2 rfl) ?_
                         refine va_get (D := D) hx hb hts inlX12 hown hK hP 55 (jc_55 cI cL ad σ12 τ) rfl 11 (of_decide_eq_true rfl) (hts _ kw_7_8) (fun _ h9 => h9) rfl dX12_orders_94 ?_
                         refine lv_iload_n hx hb dX12_orders_97 rfl (lv_at hl 3 rfl) ?_
                         refine lv_iload hx hb dX12_orders_98 (lv_at hl 1 rfl) ?_
                         refine jast hx hb hK hP hJ hA hS (jc_62 cI cL ad σ12 τ) (ja_62 cI cL ad σ12 τ _ _) (jin jz_4 (by omega) (by omega)) dX12_orders_100 (fun σ58 H locs eσ58 hP hS => ?_)
                         exact by
                          have eσ58 : σ58 = jup σ12 62 4 x10 := eσ58
                          refine lv_aload_n hx hb dX12_orders_101 rfl (lv_at hl 2 rfl) ?_
                          refine lv_iload_n hx hb dX12_orders_102 rfl (lv_at hl 3 rfl) ?_
                          refine lv_iconst (v := 1) hx hb dX12_orders_103 (of_decide_eq_true rfl) ?_
                          refine lv_iadd hx hb dX12_orders_104 ?_
                          refine jtopr (y := 5) (of_decide_eq_true rfl) ?_
                          refine lv_iload_n hx hb dX12_orders_105 rfl (lv_at hl 4 rfl) ?_
                          refine lv_iconst (v := 1) hx hb dX12_orders_106 (of_decide_eq_true rfl) ?_
                          refine lv_iload hx hb dX12_orders_107 (lv_at hl 0 rfl) ?_
                          refine lv_ishl hx hb dX12_orders_109 ?_
                          refine lv_topi (fun x59 ex59 => ?_)
                          have gx59 := jrg (rfl : x59.toInt = x59.toInt)
                          refine lv_ior hx hb dX12_orders_110 ?_
                          refine lv_topi (fun x60 ex60 => ?_)
                          have gx60 := jrg (rfl : x60.toInt = x60.toInt)
                          refine lv_bipush (v := 10) hx hb dX12_orders_111 (of_decide_eq_true rfl) ?_
                          refine lv_iload_n hx hb dX12_orders_113 rfl (lv_at hl 5 rfl) ?_
                          refine lv_imul hx hb dX12_orders_114 ?_
                          refine lv_topi (fun x61 ex61 => ?_)
                          have gx61 := jrg (rfl : x61.toInt = x61.toInt)
                          refine lv_iload hx hb dX12_orders_115 (lv_at hl 1 rfl) ?_
                          have g62 := jrg (rfl : x61.toInt = x61.toInt)
                          have g63 := jrg (rfl : x10.toInt = x10.toInt)
                          refine lv_iadd hx hb dX12_orders_117 ?_
                          refine lv_topi (fun x64 ex64 => ?_)
                          have gx64 := jrg (rfl : x64.toInt = x64.toInt)
                          have I65 : jI101 σ58 := jI101_fr ((congrFun (jnp 55 eσ58 (of_decide_eq_true rfl)) 4).trans (f20 4 (of_decide_eq_true rfl))) ((congrFun (jnp 55 eσ58 (of_decide_eq_true rfl)) 5).trans (f20 5 (of_decide_eq_true rfl))) ((jnp 56 eσ58 (of_decide_eq_true rfl)).trans (f19 56 (of_decide_eq_true rfl))) ((jnp 57 eσ58 (of_decide_eq_true rfl)).trans (f19 57 (of_decide_eq_true rfl))) ((jnp 58 eσ58 (of_decide_eq_true rfl)).trans (f19 58 (of_decide_eq_true rfl))) ((jnp 59 eσ58 (of_decide_eq_true rfl)).trans (f19 59 (of_decide_eq_true rfl))) hI101
                          have I66 : jI102 σ58 := jI102_fr ((congrFun (jnp 55 eσ58 (of_decide_eq_true rfl)) 6).trans (f20 6 (of_decide_eq_true rfl))) ((jnp 60 eσ58 (of_decide_eq_true rfl)).trans (f19 60 (of_decide_eq_true rfl))) ((jnp 61 eσ58 (of_decide_eq_true rfl)).trans (f19 61 (of_decide_eq_true rfl))) hI102
                          have I67 : jI103 σ58 := jI103_fr ((congrFun (jnp 55 eσ58 (of_decide_eq_true rfl)) 9).trans (f20 9 (of_decide_eq_true rfl))) hI103
                          have z68 : (σ58 55 10).toInt = (σ 55 10).toInt := (congrArg Int32.toInt (show σ58 55 10 = (σ 55 10) from ((congrFun (jnp 55 eσ58 (of_decide_eq_true rfl)) 10).trans m44)))
                          have z69 : (σ58 55 12).toInt = (σ 55 12).toInt := (congrArg Int32.toInt (show σ58 55 12 = (σ 55 12) from ((congrFun (jnp 55 eσ58 (of_decide_eq_true rfl)) 12).trans (f20 12 (of_decide_eq_true rfl)))))
                          have z70 : (σ58 55 13).toInt = (σ 55 13).toInt := (congrArg Int32.toInt (show σ58 55 13 = (σ 55 13) from ((congrFun (jnp 55 eσ58 (of_decide_eq_true rfl)) 13).trans (f20 13 (of_decide_eq_true rfl)))))
                          exact by
                           have w71 : ∀ k : Nat, k < 8 → 0 ≤ (σ58 62 k).toInt ∧ (σ58 62 k).toInt ≤ 3 := (by rw [eσ58]; exact jrr_up w28 (by omega) (by omega))
                           have w72 : ∀ k : Nat, k < 8 → 0 ≤ (σ58 67 k).toInt ∧ (σ58 67 k).toInt ≤ 3 := (jrr_fr (jnp 67 eσ58 (of_decide_eq_true rfl)) w29)
                           have I73 : jI104 σ58 := ⟨(by omega), (by omega), (by omega), w71, w72⟩
                           have I74 : jI105 σ58 := jI105_fr ((congrFun (jnp 55 eσ58 (of_decide_eq_true rfl)) 15).trans (f20 15 (of_decide_eq_true rfl))) ((jnp 65 eσ58 (of_decide_eq_true rfl)).trans (f19 65 (of_decide_eq_true rfl))) hI105
                           have I75 : jI106 σ58 := jI106_fr ((congrFun (jnp 55 eσ58 (of_decide_eq_true rfl)) 32).trans (f20 32 (of_decide_eq_true rfl))) ((jnp 70 eσ58 (of_decide_eq_true rfl)).trans (f19 70 (of_decide_eq_true rfl))) ((jnp 71 eσ58 (of_decide_eq_true rfl)).trans (f19 71 (of_decide_eq_true rfl))) ((jnp 72 eσ58 (of_decide_eq_true rfl)).trans (f19 72 (of_decide_eq_true rfl))) hI106
                           have I76 : jI119 σ58 := jI119_fr (jnp 68 eσ58 (of_decide_eq_true rfl)) p24
                           have I77 : jI111 σ58 := jI111_fr ((jnp 79 eσ58 (of_decide_eq_true rfl)).trans (f19 79 (of_decide_eq_true rfl))) hI111
                           have p78 : jKept σ58 := jKept.fr (jnp 75 eσ58 (of_decide_eq_true rfl)) (jnp 76 eσ58 (of_decide_eq_true rfl)) (jnp 77 eσ58 (of_decide_eq_true rfl)) p21
                           have p79 : jTR σ58 := jTR.fr ((jnp 64 eσ58 (of_decide_eq_true rfl)).trans (f19 64 (of_decide_eq_true rfl))) ((jnp 65 eσ58 (of_decide_eq_true rfl)).trans (f19 65 (of_decide_eq_true rfl))) hs_jTR
                           exact by
                            have p80 : jqSt σ58 := jqSt.fr (jnp 78 eσ58 (of_decide_eq_true rfl)) (congrFun (jnp 55 eσ58 (of_decide_eq_true rfl)) 42) p22
                            have z81 : (σ58 55 42).toInt = (σ12 55 42).toInt := (congrArg Int32.toInt (show σ58 55 42 = (σ12 55 42) from (congrFun (jnp 55 eσ58 (of_decide_eq_true rfl)) 42)))
                            refine jcallVv (As := [.int 5, .int x60, .int x64]) (rest := []) ⟨hx, hb, hml, hown, hts⟩ hK hP hA hS hZ (c_X12_orders_5 l D cI cL ad zz hJ σ58 τ x60 (x60.toInt) rfl x64 (x64.toInt) rfl I65 I66 I67 I73 I74 I75 I76 I77 p78 p79 p80 (by omega) (by omega) (by omega) (by omega)) cw_RX12_355 (jc_55 cI cL ad σ58 τ) rfl ⟨Nat.le_of_ble_eq_true rfl, Nat.le_of_ble_eq_true rfl⟩ rfl rfl rfl hl.1 rfl (Nat.le_of_ble_eq_true rfl) dX12_orders_118 ⟨Nat.zero_le _, Nat.zero_le _⟩ (fun σ82 τ82 H locs h82 hP hS => ?_)
                            obtain ⟨rfl, f84, f85, I86, I87, p88, p89, p90, h82⟩ := h82
                            obtain ⟨i92, i93, i94, w95, w96⟩ : (1 ≤ (σ82 55 10).toInt ∧ (σ82 55 10).toInt ≤ 8) ∧ (1 ≤ (σ82 55 12).toInt ∧ (σ82 55 12).toInt ≤ 12) ∧ (0 ≤ (σ82 55 13).toInt ∧ (σ82 55 13).toInt ≤ 999) ∧ (∀ k : Nat, k < 8 → 0 ≤ (σ82 62 k).toInt ∧ (σ82 62 k).toInt ≤ 3) ∧ (∀ k : Nat, k < 8 → 0 ≤ (σ82 67 k).toInt ∧ (σ82 67 k).toInt ≤ 3) := id I86
                            have z97 : (σ82 55 10).toInt = (σ 55 10).toInt := (congrArg Int32.toInt (show σ82 55 10 = (σ 55 10) from ((f85 10 (of_decide_eq_true rfl)).trans ((congrFun (jnp 55 eσ58 (of_decide_eq_true rfl)) 10).trans m44))))
                            have z98 : (σ82 55 12).toInt = (σ 55 12).toInt := (congrArg Int32.toInt (show σ82 55 12 = (σ 55 12) from ((f85 12 (of_decide_eq_true rfl)).trans ((congrFun (jnp 55 eσ58 (of_decide_eq_true rfl)) 12).trans (f20 12 (of_decide_eq_true rfl))))))
                            have z99 : (σ82 55 13).toInt = (σ 55 13).toInt := (congrArg Int32.toInt (show σ82 55 13 = (σ 55 13) from ((f85 13 (of_decide_eq_true rfl)).trans ((congrFun (jnp 55 eσ58 (of_decide_eq_true rfl)) 13).trans (f20 13 (of_decide_eq_true rfl))))))
                            obtain ⟨k100, k101, h82⟩ := h82
                            exact by
                             obtain ⟨x102, ex102⟩ : ∃ y : Int32, y = x10 + 1 := ⟨_, rfl⟩
                             have tx102 : x102.toInt = x10.toInt + 1 := (jadd ex102 rfl jz_1 (by omega) (by omega)).trans (by omega)
                             refine lv_iinc (v := x102) (lv' := [(4, .int x102), (5, .int x37), (0, .ref (ad 55)), (1, .int 4), (2, .int a2), (3, .int a3)]) hx hb dX12_orders_121 hl (k := 1) rfl (by rw [ex102]; rfl) (of_decide_eq_true rfl) rfl (fun ls hl => ?_)
                             refine lv_goto (tgt := 38) hx hb dX12_orders_124 (of_decide_eq_true rfl) ?_
                             exact by exact ihlp8 x102 σ82 _ _ ls (by have h90 := tx102; omega) (by have h90 := tx102; omega) (by have h90 := tx102; omega) (by have h90 := tx102; omega) (by have h90 := tx102; omega) (fun i hi => ((f84 i hi).trans ((jnp i eσ58 (imp_276 i hi)).trans (f19 i hi)))) (fun i hi => ((f85 i hi).trans ((congrFun (jnp 55 eσ58 (of_decide_eq_true rfl)) i).trans (f20 i hi))))  p88 p90 I86 I87 hP hS (lv_sub hl [0, 2, 3, 4, 5] rfl)
                      · have kc56 := jne c56 rfl rfl
                        obtain ⟨x103, ex103⟩ : ∃ y : Int32, y = x37 + 1 := ⟨_, rfl⟩
                        have tx103 : x103.toInt = x37.toInt + 1 := (jadd ex103 rfl jz_1 (by omega) (by omega)).trans (by omega)
                        refine lv_iinc (v := x103) (lv' := [(5, .int x103), (4, .int x10), (0, .ref (ad 55)), (1, .int 4), (2, .int a2), (3, .int a3)]) hx hb dX12_orders_78 hl (k := 0) rfl (by rw [ex103]; rfl) (of_decide_eq_true rfl) rfl (fun ls hl => ?_)
                        exact by
                         refine lv_goto (tgt := 47) hx hb dX12_orders_81 (of_decide_eq_true rfl) ?_
                         exact by exact ihlp35 x103 _ _ ls (by have h90 := tx103; omega) (by have h90 := tx103; omega) (by have h90 := tx103; omega) (by have h90 := tx103; omega)    hP hS (lv_sub hl [0, 1, 2, 3, 4, 5] rfl)
           exact by exact lp35 1000000 0 _ _ ls (by have h90 := jz_0; omega) (by have h90 := jz_0; omega) (by have h90 := jz_0; omega) (by have h90 := jz_0; omega)   hP hS hl
    exact by exact lp8 1000000 0 σ _ _ ls (by have h90 := jz_0; omega) (by have h90 := jz_0; omega) (by have h90 := jz_0; omega) (by have h90 := jz_0; omega) (by have h90 := jz_0; omega) (fun _ _ => rfl) (fun _ _ => rfl)  hs_jKept hs_jqSt hI104 hI119 hP hS hl
  · have kc7 := jeq c7 jz_4 rfl
    refine lv_aload_n hx hb dX12_orders_8 rfl (lv_at hl 0 rfl) ?_
    refine jcallV (As := []) (rest := []) ⟨hx, hb, hml, hown, hts⟩ hK hP hA hS hZ (c_X12_bestNow l D cI cL ad zz hJ σ τ hI101 hI102 hI103 hI104 hI105 hI106 hI119 hs_jKept hs_jTR hs_jqSt (by omega) (by omega)) cw_RX12_346 (jc_55 cI cL ad σ τ) rfl ⟨Nat.le_of_ble_eq_true rfl, Nat.le_of_ble_eq_true rfl⟩ rfl rfl rfl hl.1 rfl (Nat.le_of_ble_eq_true rfl) dX12_orders_9 ⟨Nat.zero_le _, Nat.zero_le _⟩ (fun r105 σ104 τ104 H locs h104 hP hS => ?_)
    obtain ⟨rfl, f106, f107, I108, p109, p110, p111, w112, h104⟩ := h104
    obtain ⟨k114, k115, h104⟩ := h104
    exact by
     have h116 := h104
     obtain ⟨q118, k117⟩ := h116
     refine lv_istore (lv' := [(4, .int r105), (0, .ref (ad 55)), (1, .int 4), (2, .int a2), (3, .int a3)]) hx hb dX12_orders_12 hl (of_decide_eq_true rfl) rfl (fun ls hl => ?_)
     refine lv_iload hx hb dX12_orders_14 (lv_at hl 0 rfl) ?_
     refine lv_aload_n hx hb dX12_orders_16 rfl (lv_at hl 1 rfl) ?_
     refine va_get (D := D) hx hb hts inlX12 hown hK hP 55 (jc_55 cI cL ad σ104 τ) rfl 46 (of_decide_eq_true rfl) (hts _ kw_40_17) (fun _ h9 => h9) rfl dX12_orders_17 ?_
     have m119 : σ104 55 46 = (σ 55 46) := (f107 46 (of_decide_eq_true rfl))
     refine jtopr m119 ?_
     refine lv_icmp_le (tgt := 34) hx hb dX12_orders_20 (of_decide_eq_true rfl) (fun c120 => ?_) (fun c120 => ?_)
     · have kc120 := jle c120 rfl rfl
       have I121 : jI104 σ104 := jI104_fr (f107 10 (of_decide_eq_true rfl)) (f107 12 (of_decide_eq_true rfl)) (f107 13 (of_decide_eq_true rfl)) (f106 62 (of_decide_eq_true rfl)) (f106 67 (of_decide_eq_true rfl)) hI104
       exact by exact hret σ104 τ _ _ _ _ ⟨rfl, (fun i hi => (f106 i (imp_271 i hi))), (fun i hi => (f107 i (imp_272 i hi))), I121, I108, p109, p110, p111, (by omega), (by omega), trivial⟩ hP hS dX12_orders_34
     · have kc120 := jnle c120 rfl rfl
       refine lv_aload_n hx hb dX12_orders_23 rfl (lv_at hl 1 rfl) ?_
       refine lv_iload hx hb dX12_orders_24 (lv_at hl 0 rfl) ?_
       refine jput (ty := .int) hx hb hts inlX12 tyX12 tyX12_ok nmX12 hown hK hP hJ hA hS (jc_55 cI cL ad σ104 τ) rfl (k := 46) (of_decide_eq_true rfl) (Nat.le_of_ble_eq_true rfl) (jp_55_46 cI cL ad σ104 τ r105) (hts _ kw_40_17) (fun _ h9 => h9) rfl (by decide +kernel) rfl rfl dX12_orders_26 (fun σ122 H locs eσ122 hP hS => ?_)
       refine lv_aload_n hx hb dX12_orders_29 rfl (lv_at hl 1 rfl) ?_
       refine lv_iload_n hx hb dX12_orders_30 rfl (lv_at hl 4 rfl) ?_
       refine jput (ty := .int) hx hb hts inlX12 tyX12 tyX12_ok nmX12 hown hK hP hJ hA hS (jc_55 cI cL ad σ122 τ) rfl (k := 45) (of_decide_eq_true rfl) (Nat.le_of_ble_eq_true rfl) (jp_55_45 cI cL ad σ122 τ a3) (hts _ kw_40_18) (fun _ h9 => h9) rfl (by decide +kernel) rfl rfl dX12_orders_31 (fun σ123 H locs eσ123 hP hS => ?_)
       have I124 : jI104 σ123 := jI104_fr ((jkp 10 eσ123 (of_decide_eq_true rfl)).trans ((jkp 10 eσ122 (of_decide_eq_true rfl)).trans (f107 10 (of_decide_eq_true rfl)))) ((jkp 12 eσ123 (of_decide_eq_true rfl)).trans ((jkp 12 eσ122 (of_decide_eq_true rfl)).trans (f107 12 (of_decide_eq_true rfl)))) ((jkp 13 eσ123 (of_decide_eq_true rfl)).trans ((jkp 13 eσ122 (of_decide_eq_true rfl)).trans (f107 13 (of_decide_eq_true rfl)))) ((jnp 62 eσ123 (of_decide_eq_true rfl)).trans ((jnp 62 eσ122 (of_decide_eq_true rfl)).trans (f106 62 (of_decide_eq_true rfl)))) ((jnp 67 eσ123 (of_decide_eq_true rfl)).trans ((jnp 67 eσ122 (of_decide_eq_true rfl)).trans (f106 67 (of_decide_eq_true rfl)))) hI104
       have I125 : jI119 σ123 := jI119_fr ((jnp 68 eσ123 (of_decide_eq_true rfl)).trans (jnp 68 eσ122 (of_decide_eq_true rfl))) I108
       have p126 : jKept σ123 := jKept.fr ((jnp 75 eσ123 (of_decide_eq_true rfl)).trans (jnp 75 eσ122 (of_decide_eq_true rfl))) ((jnp 76 eσ123 (of_decide_eq_true rfl)).trans (jnp 76 eσ122 (of_decide_eq_true rfl))) ((jnp 77 eσ123 (of_decide_eq_true rfl)).trans (jnp 77 eσ122 (of_decide_eq_true rfl))) p109
       have p127 : jTR σ123 := jTR.fr ((jnp 64 eσ123 (of_decide_eq_true rfl)).trans (jnp 64 eσ122 (of_decide_eq_true rfl))) ((jnp 65 eσ123 (of_decide_eq_true rfl)).trans (jnp 65 eσ122 (of_decide_eq_true rfl))) p110
       have p128 : jqSt σ123 := jqSt.fr ((jnp 78 eσ123 (of_decide_eq_true rfl)).trans (jnp 78 eσ122 (of_decide_eq_true rfl))) ((jkp 42 eσ123 (of_decide_eq_true rfl)).trans (jkp 42 eσ122 (of_decide_eq_true rfl))) p111
       have z129 : (σ123 55 42).toInt = (σ104 55 42).toInt := (congrArg Int32.toInt (show σ123 55 42 = (σ104 55 42) from ((jkp 42 eσ123 (of_decide_eq_true rfl)).trans (jkp 42 eσ122 (of_decide_eq_true rfl)))))
       exact by exact hret σ123 τ _ _ _ _ ⟨rfl, (fun i hi => ((jnp i eσ123 (imp_273 i hi)).trans ((jnp i eσ122 (imp_273 i hi)).trans (f106 i (imp_271 i hi))))), (fun i hi => ((jkp i eσ123 (imp_274 i hi)).trans ((jkp i eσ122 (imp_275 i hi)).trans (f107 i (imp_272 i hi))))), I124, I125, p126, p127, p128, (by omega), (by omega), trivial⟩ hP hS dX12_orders_34
set_option maxHeartbeats 4000000 in
set_option maxRecDepth 100000 in
theorem c_X12_orders_3 (l : Launch) (D : va_G) (cI cL : ClassId) (ad zz : Nat → Nat) (hJ : jD ad) (σ : Nat → Nat → Int32) (τ : Nat → Nat → Int64) (a2 : Int32) (A2 : Int) (t2 : a2.toInt = A2) (a3 : Int32) (A3 : Int) (t3 : a3.toInt = A3) (hI101 : jI101 σ) (hI102 : jI102 σ) (hI103 : jI103 σ) (hI104 : jI104 σ) (hI105 : jI105 σ) (hI106 : jI106 σ) (hI119 : jI119 σ) (hI111 : jI111 σ) (hs_jKept : jKept σ) (hs_jTR : jTR σ) (hs_jqSt : jqSt σ) (hp0 : (σ 55 10).toInt ≤ 5) (hp1 : 3 ≤ (σ 55 10).toInt) (hp2 : (σ 55 12).toInt ≤ 8) (hp3 : 0 ≤ (σ 55 42).toInt ∧ (σ 55 42).toInt ≤ 999999968) : jMv l yX12_orders cX12_orders 6 none ({ frames := 106, cells := 0, slots := 0, locals := 5131 }) D cI cL ad zz [.ref (ad 55), .int 3, .int a2, .int a3] σ τ (fun σ' τ' => τ = τ' ∧ (∀ i : Nat, (i < 55 ∨ 55 < i) ∧ (i < 62 ∨ 62 < i) ∧ (i < 66 ∨ 66 < i) ∧ (i < 68 ∨ 69 < i) ∧ (i < 74 ∨ 78 < i) → σ' i = σ i) ∧ (∀ k : Nat, (k < 18 ∨ 18 < k) ∧ (k < 19 ∨ 19 < k) ∧ (k < 20 ∨ 20 < k) ∧ (k < 21 ∨ 21 < k) ∧ (k < 22 ∨ 22 < k) ∧ (k < 25 ∨ 25 < k) ∧ (k < 26 ∨ 26 < k) ∧ (k < 27 ∨ 27 < k) ∧ (k < 37 ∨ 37 < k) ∧ (k < 42 ∨ 42 < k) ∧ (k < 45 ∨ 45 < k) ∧ (k < 46 ∨ 46 < k) → σ' 55 k = σ 55 k) ∧ (jI104 σ') ∧ (jI119 σ') ∧ (jKept σ') ∧ (jTR σ') ∧ (jqSt σ') ∧ ((σ 55 42).toInt ≤ (σ' 55 42).toInt) ∧ ((σ' 55 42).toInt ≤ (σ 55 42).toInt + 16) ∧ True) := by
  refine jMv.of hJ (by decide +kernel) rfl (Nat.le_of_ble_eq_true rfl) ?_
  intro p e s m args below meth c Q ls hC hret hl hP
  obtain ⟨hx, hb, hr, hml, hown, hts, hK, -, hlocks, hZ⟩ := hC
  have hown : s.vm.findClass RX12 = some m.cls := hown
  have hS : va_S (jA ad) s.heap s.heap [] := va_S.rf
  have hA : ∀ q, jA ad q → jA ad q := fun _ h => h
  have hl : lv_has ls 6 [(0, .ref (ad 55)), (1, .int 3), (2, .int a2), (3, .int a3)] := hl
  have g2 := jrg t2
  have g3 := jrg t3
  obtain ⟨i1, i2, i3, w4, w5⟩ : (1 ≤ (σ 55 10).toInt ∧ (σ 55 10).toInt ≤ 8) ∧ (1 ≤ (σ 55 12).toInt ∧ (σ 55 12).toInt ≤ 12) ∧ (0 ≤ (σ 55 13).toInt ∧ (σ 55 13).toInt ≤ 999) ∧ (∀ k : Nat, k < 8 → 0 ≤ (σ 62 k).toInt ∧ (σ 62 k).toInt ≤ 3) ∧ (∀ k : Nat, k < 8 → 0 ≤ (σ 67 k).toInt ∧ (σ 67 k).toInt ≤ 3) := id hI104
  have w6 : ∀ k : Nat, k < 5 → 0 ≤ (σ 79 k).toInt ∧ (σ 79 k).toInt ≤ 3 := hI111
  refine lv_iload_n hx hb dX12_orders_0 rfl (lv_at hl 1 rfl) ?_
  refine lv_aload_n hx hb dX12_orders_1 rfl (lv_at hl 0 rfl) ?_
  refine va_get (D := D) hx hb hts inlX12 hown hK hP 55 (jc_55 cI cL ad σ τ) rfl 10 (of_decide_eq_true rfl) (hts _ kw_8_15) (fun _ h9 => h9) rfl dX12_orders_2 ?_
  refine lv_icmp_ne (tgt := 35) hx hb dX12_orders_5 (of_decide_eq_true rfl) (fun c7 => ?_) (fun c7 => ?_)
  · have kc7 := jne c7 jz_3 rfl
    refine lv_iconst (v := 0) hx hb dX12_orders_35 (of_decide_eq_true rfl) ?_
    refine lv_istore (lv' := [(4, .int 0), (0, .ref (ad 55)), (1, .int 3), (2, .int a2), (3, .int a3)]) hx hb dX12_orders_36 hl (of_decide_eq_true rfl) rfl (fun ls hl => ?_)
    have lp8 : ∀ (n9 : Nat) (x10 : Int32) (σ12 : Nat → Nat → Int32) (H : Heap) (locs : List Loc) (ls : Array Slot), (-x10.toInt + 4 : Int) < n9 → 0 ≤ x10.toInt → x10.toInt ≤ 4 → (σ 55 42).toInt ≤ (σ12 55 42).toInt → (σ12 55 42).toInt ≤ (σ 55 42).toInt + 4 * x10.toInt → (∀ i : Nat, (i < 55 ∨ 55 < i) ∧ (i < 62 ∨ 62 < i) ∧ (i < 66 ∨ 66 < i) ∧ (i < 68 ∨ 69 < i) ∧ (i < 74 ∨ 78 < i) → σ12 i = σ i) → (∀ k : Nat, (k < 18 ∨ 18 < k) ∧ (k < 19 ∨ 19 < k) ∧ (k < 20 ∨ 20 < k) ∧ (k < 21 ∨ 21 < k) ∧ (k < 22 ∨ 22 < k) ∧ (k < 25 ∨ 25 < k) ∧ (k < 26 ∨ 26 < k) ∧ (k < 27 ∨ 27 < k) ∧ (k < 37 ∨ 37 < k) ∧ (k < 42 ∨ 42 < k) ∧ (k < 45 ∨ 45 < k) ∧ (k < 46 ∨ 46 < k) → σ12 55 k = σ 55 k) → jKept σ12 → jqSt σ12 → jI104 σ12 → jI119 σ12 → jH D cI cL ad σ12 τ H → va_S (jA ad) s.heap H locs → lv_has ls 6 [(4, .int x10), (0, .ref (ad 55)), (1, .int 3), (2, .int a2), (3, .int a3)] → W p l e ({ frames := 106, cells := 0, slots := 0, locals := 5131 }) s m args below meth c H locs 0 0 Q (F0 m 38 ls []) := by
      intro n9
      induction n9 with
      | zero => intro x10 σ12 H locs ls h14 h15 h16 h17 h18; exact absurd h14 (by omega)
      | succ n9 ihlp8 =>
        intro x10 σ12 H locs ls h14 h15 h16 h17 h18 f19 f20 p21 p22 p23 p24 hP hS hl
        exact by
         obtain ⟨i25, i26, i27, w28, w29⟩ : (1 ≤ (σ12 55 10).toInt ∧ (σ12 55 10).toInt ≤ 8) ∧ (1 ≤ (σ12 55 12).toInt ∧ (σ12 55 12).toInt ≤ 12) ∧ (0 ≤ (σ12 55 13).toInt ∧ (σ12 55 13).toInt ≤ 999) ∧ (∀ k : Nat, k < 8 → 0 ≤ (σ12 62 k).toInt ∧ (σ12 62 k).toInt ≤ 3) ∧ (∀ k : Nat, k < 8 → 0 ≤ (σ12 67 k).toInt ∧ (σ12 67 k).toInt ≤ 3) := id p23
         have z30 : (σ12 55 10).toInt = (σ 55 10).toInt := (congrArg Int32.toInt (show σ12 55 10 = (σ 55 10) from (f20 10 (of_decide_eq_true rfl))))
         have z31 : (σ12 55 12).toInt = (σ 55 12).toInt := (congrArg Int32.toInt (show σ12 55 12 = (σ 55 12) from (f20 12 (of_decide_eq_true rfl))))
         have z32 : (σ12 55 13).toInt = (σ 55 13).toInt := (congrArg Int32.toInt (show σ12 55 13 = (σ 55 13) from (f20 13 (of_decide_eq_true rfl))))
         refine lv_iload hx hb dX12_orders_38 (lv_at hl 0 rfl) ?_
         refine lv_iconst (v := 4) hx hb dX12_orders_40 (of_decide_eq_true rfl) ?_
         refine lv_icmp_ge (tgt := 127) hx hb dX12_orders_41 (of_decide_eq_true rfl) (fun c33 => ?_) (fun c33 => ?_)
         · have kc33 := jle c33 jz_4 rfl
           have p34 : jTR σ12 := jTR.fr (f19 64 (of_decide_eq_true rfl)) (f19 65 (of_decide_eq_true rfl)) hs_jTR
           exact by exact hret σ12 τ _ _ _ _ ⟨rfl, (fun i hi => (f19 i hi)), (fun i hi => (f20 i hi)), p23, p24, p21, p34, p22, (by omega), (by omega), trivial⟩ hP hS dX12_orders_127
         · have kc33 := jnle c33 jz_4 rfl
           refine lv_iconst (v := 0) hx hb dX12_orders_44 (of_decide_eq_true rfl) ?_
           refine lv_istore (lv' := [(5, .int 0), (4, .int x10), (0, .ref (ad 55)), (1, .int 3), (2, .int a2), (3, .int a3)]) hx hb dX12_orders_45 hl (of_decide_eq_true rfl) rfl (fun ls hl => ?_)
           have lp35 : ∀ (n36 : Nat) (x37 : Int32) (H : Heap) (locs : List Loc) (ls : Array Slot), ((σ12 55 10).toInt - x37.toInt : Int) < n36 → 0 ≤ x37.toInt → x37.toInt ≤ 5 → x37.toInt ≤ (σ12 55 10).toInt → jH D cI cL ad σ12 τ H → va_S (jA ad) s.heap H locs → lv_has ls 6 [(5, .int x37), (4, .int x10), (0, .ref (ad 55)), (1, .int 3), (2, .int a2), (3, .int a3)] → W p l e ({ frames := 106, cells := 0, slots := 0, locals := 5131 }) s m args below meth c H locs 0 0 Q (F0 m 47 ls []) := by
             intro n36
             induction n36 with
             | zero => intro x37 H locs ls h39 h40 h41 h42; exact absurd h39 (by omega)
             | succ n36 ihlp35 =>
               intro x37 H locs ls h39 h40 h41 h42 hP hS hl
               exact by
                refine lv_iload hx hb dX12_orders_47 (lv_at hl 0 rfl) ?_
                refine lv_aload_n hx hb dX12_orders_49 rfl (lv_at hl 2 rfl) ?_
                refine va_get (D := D) hx hb hts inlX12 hown hK hP 55 (jc_55 cI cL ad σ12 τ) rfl 10 (of_decide_eq_true rfl) (hts _ kw_8_15) (fun _ h9 => h9) rfl dX12_orders_50 ?_
                have m44 : σ12 55 10 = (σ 55 10) := (f20 10 (of_decide_eq_true rfl))
                refine jtopr m44 ?_
                refine lv_icmp_ge (tgt := 84) hx hb dX12_orders_53 (of_decide_eq_true rfl) (fun c45 => ?_) (fun c45 => ?_)
                · have kc45 := jle c45 rfl rfl
                  refine lv_iload hx hb dX12_orders_84 (lv_at hl 0 rfl) ?_
                  refine lv_aload_n hx hb dX12_orders_86 rfl (lv_at hl 2 rfl) ?_
                  refine va_get (D := D) hx hb hts inlX12 hown hK hP 55 (jc_55 cI cL ad σ12 τ) rfl 10 (of_decide_eq_true rfl) (hts _ kw_8_15) (fun _ h9 => h9) rfl dX12_orders_87 ?_
                  refine jtopr m44 ?_
                  exact by
                   refine lv_icmp_ge (tgt := 121) hx hb dX12_orders_90 (of_decide_eq_true rfl) (fun c46 => ?_) (fun c => absurd (jnle c rfl rfl) (by omega))
                   have kc46 := jle c46 rfl rfl
                   obtain ⟨x47, ex47⟩ : ∃ y : Int32, y = x10 + 1 := ⟨_, rfl⟩
                   have tx47 : x47.toInt = x10.toInt + 1 := (jadd ex47 rfl jz_1 (by omega) (by omega)).trans (by omega)
                   refine lv_iinc (v := x47) (lv' := [(4, .int x47), (5, .int x37), (0, .ref (ad 55)), (1, .int 3), (2, .int a2), (3, .int a3)]) hx hb dX12_orders_121 hl (k := 1) rfl (by rw [ex47]; rfl) (of_decide_eq_true rfl) rfl (fun ls hl => ?_)
                   refine lv_goto (tgt := 38) hx hb dX12_orders_124 (of_decide_eq_true rfl) ?_
                   exact by exact ihlp8 x47 σ12 _ _ ls (by have h90 := tx47; omega) (by have h90 := tx47; omega) (by have h90 := tx47; omega) (by have h90 := tx47; omega) (by have h90 := tx47; omega) (fun i hi => (f19 i hi)) (fun i hi => (f20 i hi))  p21 p22 p23 p24 hP hS (lv_sub hl [0, 2, 3, 4, 5] rfl)
                · have kc45 := jnle c45 rfl rfl
                  refine lv_iload_n hx hb dX12_orders_56 rfl (lv_at hl 4 rfl) ?_
                  exact by
                   refine lv_iload hx hb dX12_orders_57 (lv_at hl 0 rfl) ?_
                   refine lv_ishr hx hb dX12_orders_59 ?_
                   refine lv_topi (fun x48 ex48 => ?_)
                   have gx48 := jrg (rfl : x48.toInt = x48.toInt)
                   refine lv_iconst (v := 1) hx hb dX12_orders_60 (of_decide_eq_true rfl) ?_
                   refine lv_iand hx hb dX12_orders_61 ?_
                   refine lv_topi (fun x49 ex49 => ?_)
                   have gx49 := jrg (rfl : x49.toInt = x49.toInt)
                   have g50 : 0 ≤ x49.toInt ∧ x49.toInt ≤ 1 := jmask ex49 1 (of_decide_eq_true rfl) (of_decide_eq_true rfl)
                   refine lv_iconst (v := 1) hx hb dX12_orders_62 (of_decide_eq_true rfl) ?_
                   refine lv_icmp_eq (tgt := 78) hx hb dX12_orders_63 (of_decide_eq_true rfl) (fun c51 => ?_) (fun c51 => ?_)
                   · have kc51 := jeq c51 rfl jz_1
                     obtain ⟨x52, ex52⟩ : ∃ y : Int32, y = x37 + 1 := ⟨_, rfl⟩
                     exact by
                      have tx52 : x52.toInt = x37.toInt + 1 := (jadd ex52 rfl jz_1 (by omega) (by omega)).trans (by omega)
                      refine lv_iinc (v := x52) (lv' := [(5, .int x52), (4, .int x10), (0, .ref (ad 55)), (1, .int 3), (2, .int a2), (3, .int a3)]) hx hb dX12_orders_78 hl (k := 0) rfl (by rw [ex52]; rfl) (of_decide_eq_true rfl) rfl (fun ls hl => ?_)
                      refine lv_goto (tgt := 47) hx hb dX12_orders_81 (of_decide_eq_true rfl) ?_
                      exact by exact ihlp35 x52 _ _ ls (by have h90 := tx52; omega) (by have h90 := tx52; omega) (by have h90 := tx52; omega) (by have h90 := tx52; omega)    hP hS (lv_sub hl [0, 1, 2, 3, 4, 5] rfl)
                   · have kc51 := jne c51 rfl jz_1
                     refine lv_aload_n hx hb dX12_orders_66 rfl (lv_at hl 2 rfl) ?_
                     refine va_get (D := D) hx hb hts inlX12 hown hK hP 55 (jc_55 cI cL ad σ12 τ) rfl 44 (of_decide_eq_true rfl) (hts _ kw_8_4) (fun _ h9 => h9) rfl dX12_orders_67 ?_
                     refine lv_iload hx hb dX12_orders_70 (lv_at hl 0 rfl) ?_
                     refine jald hx hb hK hP (jc_79 cI cL ad σ12 τ) (jin rfl (by omega) (by omega)) dX12_orders_72 ?_
                     exact by
                      have w53 : ∀ k : Nat, k < 5 → 0 ≤ (σ12 79 k).toInt ∧ (σ12 79 k).toInt ≤ 3 := (jrr_fr (f19 79 (of_decide_eq_true rfl)) w6)
                      have g54 := w53 _ (jnat (x := x37) rfl (n := 5) (by omega) (of_decide_eq_true rfl))
                      refine lv_topi (fun x55 ex55 => ?_)
                      rw [← ex55] at g54
                      refine lv_iload hx hb dX12_orders_73 (lv_at hl 1 rfl) ?_
                      refine lv_icmp_eq (tgt := 84) hx hb dX12_orders_75 (of_decide_eq_true rfl) (fun c56 => ?_) (fun c56 => ?_)
                      · have kc56 := jeq c56 rfl rfl
                        refine lv_iload hx hb dX12_orders_84 (lv_at hl 0 rfl) ?_
                        refine lv_aload_n hx hb dX12_orders_86 rfl (lv_at hl 2 rfl) ?_
                        exact by
                         refine va_get (D := D) hx hb hts inlX12 hown hK hP 55 (jc_55 cI cL ad σ12 τ) rfl 10 (of_decide_eq_true rfl) (hts _ kw_8_15) (fun _ h9 => h9) rfl dX12_orders_87 ?_
                         refine jtopr m44 ?_
                         refine lv_icmp_ge (tgt := 121) hx hb dX12_orders_90 (of_decide_eq_true rfl) (fun c => absurd (jle c rfl rfl) (by omega)) (fun c57 => ?_)
                         have kc57 := jnle c57 rfl rfl
                         refine lv_aload_n hx hb dX12_orders_93 rfl (lv_at hl 2 rfl) ?_
                         refine va_get (D := D) hx hb hts inlX12 hown hK hP 55 (jc_55 cI cL ad σ12 τ) rfl 11 (of_decide_eq_true rfl) (hts _ kw_7_8) (fun _ h9 => h9) rfl dX12_orders_94 ?_
                         refine lv_iload_n hx hb dX12_orders_97 rfl (lv_at hl 3 rfl) ?_
                         refine lv_iload hx hb dX12_orders_98 (lv_at hl 1 rfl) ?_
                         refine jast hx hb hK hP hJ hA hS (jc_62 cI cL ad σ12 τ) (ja_62 cI cL ad σ12 τ _ _) (jin jz_3 (by omega) (by omega)) dX12_orders_100 (fun σ58 H locs eσ58 hP hS => ?_)
                         exact by
                          have eσ58 : σ58 = jup σ12 62 3 x10 := eσ58
                          refine lv_aload_n hx hb dX12_orders_101 rfl (lv_at hl 2 rfl) ?_
                          refine lv_iload_n hx hb dX12_orders_102 rfl (lv_at hl 3 rfl) ?_
                          refine lv_iconst (v := 1) hx hb dX12_orders_103 (of_decide_eq_true rfl) ?_
                          refine lv_iadd hx hb dX12_orders_104 ?_
                          refine jtopr (y := 4) (of_decide_eq_true rfl) ?_
                          refine lv_iload_n hx hb dX12_orders_105 rfl (lv_at hl 4 rfl) ?_
                          refine lv_iconst (v := 1) hx hb dX12_orders_106 (of_decide_eq_true rfl) ?_
                          refine lv_iload hx hb dX12_orders_107 (lv_at hl 0 rfl) ?_
                          refine lv_ishl hx hb dX12_orders_109 ?_
                          refine lv_topi (fun x59 ex59 => ?_)
                          have gx59 := jrg (rfl : x59.toInt = x59.toInt)
                          refine lv_ior hx hb dX12_orders_110 ?_
                          refine lv_topi (fun x60 ex60 => ?_)
                          have gx60 := jrg (rfl : x60.toInt = x60.toInt)
                          refine lv_bipush (v := 10) hx hb dX12_orders_111 (of_decide_eq_true rfl) ?_
                          refine lv_iload_n hx hb dX12_orders_113 rfl (lv_at hl 5 rfl) ?_
                          refine lv_imul hx hb dX12_orders_114 ?_
                          refine lv_topi (fun x61 ex61 => ?_)
                          have gx61 := jrg (rfl : x61.toInt = x61.toInt)
                          refine lv_iload hx hb dX12_orders_115 (lv_at hl 1 rfl) ?_
                          have g62 := jrg (rfl : x61.toInt = x61.toInt)
                          have g63 := jrg (rfl : x10.toInt = x10.toInt)
                          refine lv_iadd hx hb dX12_orders_117 ?_
                          refine lv_topi (fun x64 ex64 => ?_)
                          have gx64 := jrg (rfl : x64.toInt = x64.toInt)
                          have I65 : jI101 σ58 := jI101_fr ((congrFun (jnp 55 eσ58 (of_decide_eq_true rfl)) 4).trans (f20 4 (of_decide_eq_true rfl))) ((congrFun (jnp 55 eσ58 (of_decide_eq_true rfl)) 5).trans (f20 5 (of_decide_eq_true rfl))) ((jnp 56 eσ58 (of_decide_eq_true rfl)).trans (f19 56 (of_decide_eq_true rfl))) ((jnp 57 eσ58 (of_decide_eq_true rfl)).trans (f19 57 (of_decide_eq_true rfl))) ((jnp 58 eσ58 (of_decide_eq_true rfl)).trans (f19 58 (of_decide_eq_true rfl))) ((jnp 59 eσ58 (of_decide_eq_true rfl)).trans (f19 59 (of_decide_eq_true rfl))) hI101
                          have I66 : jI102 σ58 := jI102_fr ((congrFun (jnp 55 eσ58 (of_decide_eq_true rfl)) 6).trans (f20 6 (of_decide_eq_true rfl))) ((jnp 60 eσ58 (of_decide_eq_true rfl)).trans (f19 60 (of_decide_eq_true rfl))) ((jnp 61 eσ58 (of_decide_eq_true rfl)).trans (f19 61 (of_decide_eq_true rfl))) hI102
                          have I67 : jI103 σ58 := jI103_fr ((congrFun (jnp 55 eσ58 (of_decide_eq_true rfl)) 9).trans (f20 9 (of_decide_eq_true rfl))) hI103
                          have z68 : (σ58 55 10).toInt = (σ 55 10).toInt := (congrArg Int32.toInt (show σ58 55 10 = (σ 55 10) from ((congrFun (jnp 55 eσ58 (of_decide_eq_true rfl)) 10).trans m44)))
                          have z69 : (σ58 55 12).toInt = (σ 55 12).toInt := (congrArg Int32.toInt (show σ58 55 12 = (σ 55 12) from ((congrFun (jnp 55 eσ58 (of_decide_eq_true rfl)) 12).trans (f20 12 (of_decide_eq_true rfl)))))
                          have z70 : (σ58 55 13).toInt = (σ 55 13).toInt := (congrArg Int32.toInt (show σ58 55 13 = (σ 55 13) from ((congrFun (jnp 55 eσ58 (of_decide_eq_true rfl)) 13).trans (f20 13 (of_decide_eq_true rfl)))))
                          exact by
                           have w71 : ∀ k : Nat, k < 8 → 0 ≤ (σ58 62 k).toInt ∧ (σ58 62 k).toInt ≤ 3 := (by rw [eσ58]; exact jrr_up w28 (by omega) (by omega))
                           have w72 : ∀ k : Nat, k < 8 → 0 ≤ (σ58 67 k).toInt ∧ (σ58 67 k).toInt ≤ 3 := (jrr_fr (jnp 67 eσ58 (of_decide_eq_true rfl)) w29)
                           have I73 : jI104 σ58 := ⟨(by omega), (by omega), (by omega), w71, w72⟩
                           have I74 : jI105 σ58 := jI105_fr ((congrFun (jnp 55 eσ58 (of_decide_eq_true rfl)) 15).trans (f20 15 (of_decide_eq_true rfl))) ((jnp 65 eσ58 (of_decide_eq_true rfl)).trans (f19 65 (of_decide_eq_true rfl))) hI105
                           have I75 : jI106 σ58 := jI106_fr ((congrFun (jnp 55 eσ58 (of_decide_eq_true rfl)) 32).trans (f20 32 (of_decide_eq_true rfl))) ((jnp 70 eσ58 (of_decide_eq_true rfl)).trans (f19 70 (of_decide_eq_true rfl))) ((jnp 71 eσ58 (of_decide_eq_true rfl)).trans (f19 71 (of_decide_eq_true rfl))) ((jnp 72 eσ58 (of_decide_eq_true rfl)).trans (f19 72 (of_decide_eq_true rfl))) hI106
                           have I76 : jI119 σ58 := jI119_fr (jnp 68 eσ58 (of_decide_eq_true rfl)) p24
                           have I77 : jI111 σ58 := jI111_fr ((jnp 79 eσ58 (of_decide_eq_true rfl)).trans (f19 79 (of_decide_eq_true rfl))) hI111
                           have p78 : jKept σ58 := jKept.fr (jnp 75 eσ58 (of_decide_eq_true rfl)) (jnp 76 eσ58 (of_decide_eq_true rfl)) (jnp 77 eσ58 (of_decide_eq_true rfl)) p21
                           have p79 : jTR σ58 := jTR.fr ((jnp 64 eσ58 (of_decide_eq_true rfl)).trans (f19 64 (of_decide_eq_true rfl))) ((jnp 65 eσ58 (of_decide_eq_true rfl)).trans (f19 65 (of_decide_eq_true rfl))) hs_jTR
                           exact by
                            have p80 : jqSt σ58 := jqSt.fr (jnp 78 eσ58 (of_decide_eq_true rfl)) (congrFun (jnp 55 eσ58 (of_decide_eq_true rfl)) 42) p22
                            have z81 : (σ58 55 42).toInt = (σ12 55 42).toInt := (congrArg Int32.toInt (show σ58 55 42 = (σ12 55 42) from (congrFun (jnp 55 eσ58 (of_decide_eq_true rfl)) 42)))
                            refine jcallVv (As := [.int 4, .int x60, .int x64]) (rest := []) ⟨hx, hb, hml, hown, hts⟩ hK hP hA hS hZ (c_X12_orders_4 l D cI cL ad zz hJ σ58 τ x60 (x60.toInt) rfl x64 (x64.toInt) rfl I65 I66 I67 I73 I74 I75 I76 I77 p78 p79 p80 (by omega) (by omega) (by omega) (by omega)) cw_RX12_355 (jc_55 cI cL ad σ58 τ) rfl ⟨Nat.le_of_ble_eq_true rfl, Nat.le_of_ble_eq_true rfl⟩ rfl rfl rfl hl.1 rfl (Nat.le_of_ble_eq_true rfl) dX12_orders_118 ⟨Nat.zero_le _, Nat.zero_le _⟩ (fun σ82 τ82 H locs h82 hP hS => ?_)
                            obtain ⟨rfl, f84, f85, I86, I87, p88, p89, p90, h82⟩ := h82
                            obtain ⟨i92, i93, i94, w95, w96⟩ : (1 ≤ (σ82 55 10).toInt ∧ (σ82 55 10).toInt ≤ 8) ∧ (1 ≤ (σ82 55 12).toInt ∧ (σ82 55 12).toInt ≤ 12) ∧ (0 ≤ (σ82 55 13).toInt ∧ (σ82 55 13).toInt ≤ 999) ∧ (∀ k : Nat, k < 8 → 0 ≤ (σ82 62 k).toInt ∧ (σ82 62 k).toInt ≤ 3) ∧ (∀ k : Nat, k < 8 → 0 ≤ (σ82 67 k).toInt ∧ (σ82 67 k).toInt ≤ 3) := id I86
                            have z97 : (σ82 55 10).toInt = (σ 55 10).toInt := (congrArg Int32.toInt (show σ82 55 10 = (σ 55 10) from ((f85 10 (of_decide_eq_true rfl)).trans ((congrFun (jnp 55 eσ58 (of_decide_eq_true rfl)) 10).trans m44))))
                            have z98 : (σ82 55 12).toInt = (σ 55 12).toInt := (congrArg Int32.toInt (show σ82 55 12 = (σ 55 12) from ((f85 12 (of_decide_eq_true rfl)).trans ((congrFun (jnp 55 eσ58 (of_decide_eq_true rfl)) 12).trans (f20 12 (of_decide_eq_true rfl))))))
                            have z99 : (σ82 55 13).toInt = (σ 55 13).toInt := (congrArg Int32.toInt (show σ82 55 13 = (σ 55 13) from ((f85 13 (of_decide_eq_true rfl)).trans ((congrFun (jnp 55 eσ58 (of_decide_eq_true rfl)) 13).trans (f20 13 (of_decide_eq_true rfl))))))
                            obtain ⟨k100, k101, h82⟩ := h82
                            exact by
                             obtain ⟨x102, ex102⟩ : ∃ y : Int32, y = x10 + 1 := ⟨_, rfl⟩
                             have tx102 : x102.toInt = x10.toInt + 1 := (jadd ex102 rfl jz_1 (by omega) (by omega)).trans (by omega)
                             refine lv_iinc (v := x102) (lv' := [(4, .int x102), (5, .int x37), (0, .ref (ad 55)), (1, .int 3), (2, .int a2), (3, .int a3)]) hx hb dX12_orders_121 hl (k := 1) rfl (by rw [ex102]; rfl) (of_decide_eq_true rfl) rfl (fun ls hl => ?_)
                             refine lv_goto (tgt := 38) hx hb dX12_orders_124 (of_decide_eq_true rfl) ?_
                             exact by exact ihlp8 x102 σ82 _ _ ls (by have h90 := tx102; omega) (by have h90 := tx102; omega) (by have h90 := tx102; omega) (by have h90 := tx102; omega) (by have h90 := tx102; omega) (fun i hi => ((f84 i hi).trans ((jnp i eσ58 (imp_276 i hi)).trans (f19 i hi)))) (fun i hi => ((f85 i hi).trans ((congrFun (jnp 55 eσ58 (of_decide_eq_true rfl)) i).trans (f20 i hi))))  p88 p90 I86 I87 hP hS (lv_sub hl [0, 2, 3, 4, 5] rfl)
                      · have kc56 := jne c56 rfl rfl
                        obtain ⟨x103, ex103⟩ : ∃ y : Int32, y = x37 + 1 := ⟨_, rfl⟩
                        have tx103 : x103.toInt = x37.toInt + 1 := (jadd ex103 rfl jz_1 (by omega) (by omega)).trans (by omega)
                        refine lv_iinc (v := x103) (lv' := [(5, .int x103), (4, .int x10), (0, .ref (ad 55)), (1, .int 3), (2, .int a2), (3, .int a3)]) hx hb dX12_orders_78 hl (k := 0) rfl (by rw [ex103]; rfl) (of_decide_eq_true rfl) rfl (fun ls hl => ?_)
                        exact by
                         refine lv_goto (tgt := 47) hx hb dX12_orders_81 (of_decide_eq_true rfl) ?_
                         exact by exact ihlp35 x103 _ _ ls (by have h90 := tx103; omega) (by have h90 := tx103; omega) (by have h90 := tx103; omega) (by have h90 := tx103; omega)    hP hS (lv_sub hl [0, 1, 2, 3, 4, 5] rfl)
           exact by exact lp35 1000000 0 _ _ ls (by have h90 := jz_0; omega) (by have h90 := jz_0; omega) (by have h90 := jz_0; omega) (by have h90 := jz_0; omega)   hP hS hl
    exact by exact lp8 1000000 0 σ _ _ ls (by have h90 := jz_0; omega) (by have h90 := jz_0; omega) (by have h90 := jz_0; omega) (by have h90 := jz_0; omega) (by have h90 := jz_0; omega) (fun _ _ => rfl) (fun _ _ => rfl)  hs_jKept hs_jqSt hI104 hI119 hP hS hl
  · have kc7 := jeq c7 jz_3 rfl
    refine lv_aload_n hx hb dX12_orders_8 rfl (lv_at hl 0 rfl) ?_
    refine jcallV (As := []) (rest := []) ⟨hx, hb, hml, hown, hts⟩ hK hP hA hS hZ (c_X12_bestNow l D cI cL ad zz hJ σ τ hI101 hI102 hI103 hI104 hI105 hI106 hI119 hs_jKept hs_jTR hs_jqSt (by omega) (by omega)) cw_RX12_346 (jc_55 cI cL ad σ τ) rfl ⟨Nat.le_of_ble_eq_true rfl, Nat.le_of_ble_eq_true rfl⟩ rfl rfl rfl hl.1 rfl (Nat.le_of_ble_eq_true rfl) dX12_orders_9 ⟨Nat.zero_le _, Nat.zero_le _⟩ (fun r105 σ104 τ104 H locs h104 hP hS => ?_)
    obtain ⟨rfl, f106, f107, I108, p109, p110, p111, w112, h104⟩ := h104
    obtain ⟨k114, k115, h104⟩ := h104
    exact by
     have h116 := h104
     obtain ⟨q118, k117⟩ := h116
     refine lv_istore (lv' := [(4, .int r105), (0, .ref (ad 55)), (1, .int 3), (2, .int a2), (3, .int a3)]) hx hb dX12_orders_12 hl (of_decide_eq_true rfl) rfl (fun ls hl => ?_)
     refine lv_iload hx hb dX12_orders_14 (lv_at hl 0 rfl) ?_
     refine lv_aload_n hx hb dX12_orders_16 rfl (lv_at hl 1 rfl) ?_
     refine va_get (D := D) hx hb hts inlX12 hown hK hP 55 (jc_55 cI cL ad σ104 τ) rfl 46 (of_decide_eq_true rfl) (hts _ kw_40_17) (fun _ h9 => h9) rfl dX12_orders_17 ?_
     have m119 : σ104 55 46 = (σ 55 46) := (f107 46 (of_decide_eq_true rfl))
     refine jtopr m119 ?_
     refine lv_icmp_le (tgt := 34) hx hb dX12_orders_20 (of_decide_eq_true rfl) (fun c120 => ?_) (fun c120 => ?_)
     · have kc120 := jle c120 rfl rfl
       have I121 : jI104 σ104 := jI104_fr (f107 10 (of_decide_eq_true rfl)) (f107 12 (of_decide_eq_true rfl)) (f107 13 (of_decide_eq_true rfl)) (f106 62 (of_decide_eq_true rfl)) (f106 67 (of_decide_eq_true rfl)) hI104
       exact by exact hret σ104 τ _ _ _ _ ⟨rfl, (fun i hi => (f106 i (imp_271 i hi))), (fun i hi => (f107 i (imp_272 i hi))), I121, I108, p109, p110, p111, (by omega), (by omega), trivial⟩ hP hS dX12_orders_34
     · have kc120 := jnle c120 rfl rfl
       refine lv_aload_n hx hb dX12_orders_23 rfl (lv_at hl 1 rfl) ?_
       refine lv_iload hx hb dX12_orders_24 (lv_at hl 0 rfl) ?_
       refine jput (ty := .int) hx hb hts inlX12 tyX12 tyX12_ok nmX12 hown hK hP hJ hA hS (jc_55 cI cL ad σ104 τ) rfl (k := 46) (of_decide_eq_true rfl) (Nat.le_of_ble_eq_true rfl) (jp_55_46 cI cL ad σ104 τ r105) (hts _ kw_40_17) (fun _ h9 => h9) rfl (by decide +kernel) rfl rfl dX12_orders_26 (fun σ122 H locs eσ122 hP hS => ?_)
       refine lv_aload_n hx hb dX12_orders_29 rfl (lv_at hl 1 rfl) ?_
       refine lv_iload_n hx hb dX12_orders_30 rfl (lv_at hl 4 rfl) ?_
       refine jput (ty := .int) hx hb hts inlX12 tyX12 tyX12_ok nmX12 hown hK hP hJ hA hS (jc_55 cI cL ad σ122 τ) rfl (k := 45) (of_decide_eq_true rfl) (Nat.le_of_ble_eq_true rfl) (jp_55_45 cI cL ad σ122 τ a3) (hts _ kw_40_18) (fun _ h9 => h9) rfl (by decide +kernel) rfl rfl dX12_orders_31 (fun σ123 H locs eσ123 hP hS => ?_)
       have I124 : jI104 σ123 := jI104_fr ((jkp 10 eσ123 (of_decide_eq_true rfl)).trans ((jkp 10 eσ122 (of_decide_eq_true rfl)).trans (f107 10 (of_decide_eq_true rfl)))) ((jkp 12 eσ123 (of_decide_eq_true rfl)).trans ((jkp 12 eσ122 (of_decide_eq_true rfl)).trans (f107 12 (of_decide_eq_true rfl)))) ((jkp 13 eσ123 (of_decide_eq_true rfl)).trans ((jkp 13 eσ122 (of_decide_eq_true rfl)).trans (f107 13 (of_decide_eq_true rfl)))) ((jnp 62 eσ123 (of_decide_eq_true rfl)).trans ((jnp 62 eσ122 (of_decide_eq_true rfl)).trans (f106 62 (of_decide_eq_true rfl)))) ((jnp 67 eσ123 (of_decide_eq_true rfl)).trans ((jnp 67 eσ122 (of_decide_eq_true rfl)).trans (f106 67 (of_decide_eq_true rfl)))) hI104
       have I125 : jI119 σ123 := jI119_fr ((jnp 68 eσ123 (of_decide_eq_true rfl)).trans (jnp 68 eσ122 (of_decide_eq_true rfl))) I108
       have p126 : jKept σ123 := jKept.fr ((jnp 75 eσ123 (of_decide_eq_true rfl)).trans (jnp 75 eσ122 (of_decide_eq_true rfl))) ((jnp 76 eσ123 (of_decide_eq_true rfl)).trans (jnp 76 eσ122 (of_decide_eq_true rfl))) ((jnp 77 eσ123 (of_decide_eq_true rfl)).trans (jnp 77 eσ122 (of_decide_eq_true rfl))) p109
       have p127 : jTR σ123 := jTR.fr ((jnp 64 eσ123 (of_decide_eq_true rfl)).trans (jnp 64 eσ122 (of_decide_eq_true rfl))) ((jnp 65 eσ123 (of_decide_eq_true rfl)).trans (jnp 65 eσ122 (of_decide_eq_true rfl))) p110
       have p128 : jqSt σ123 := jqSt.fr ((jnp 78 eσ123 (of_decide_eq_true rfl)).trans (jnp 78 eσ122 (of_decide_eq_true rfl))) ((jkp 42 eσ123 (of_decide_eq_true rfl)).trans (jkp 42 eσ122 (of_decide_eq_true rfl))) p111
       have z129 : (σ123 55 42).toInt = (σ104 55 42).toInt := (congrArg Int32.toInt (show σ123 55 42 = (σ104 55 42) from ((jkp 42 eσ123 (of_decide_eq_true rfl)).trans (jkp 42 eσ122 (of_decide_eq_true rfl)))))
       exact by exact hret σ123 τ _ _ _ _ ⟨rfl, (fun i hi => ((jnp i eσ123 (imp_273 i hi)).trans ((jnp i eσ122 (imp_273 i hi)).trans (f106 i (imp_271 i hi))))), (fun i hi => ((jkp i eσ123 (imp_274 i hi)).trans ((jkp i eσ122 (imp_275 i hi)).trans (f107 i (imp_272 i hi))))), I124, I125, p126, p127, p128, (by omega), (by omega), trivial⟩ hP hS dX12_orders_34
set_option maxHeartbeats 4000000 in
set_option maxRecDepth 100000 in
theorem c_X12_orders_2 (l : Launch) (D : va_G) (cI cL : ClassId) (ad zz : Nat → Nat) (hJ : jD ad) (σ : Nat → Nat → Int32) (τ : Nat → Nat → Int64) (a2 : Int32) (A2 : Int) (t2 : a2.toInt = A2) (a3 : Int32) (A3 : Int) (t3 : a3.toInt = A3) (hI101 : jI101 σ) (hI102 : jI102 σ) (hI103 : jI103 σ) (hI104 : jI104 σ) (hI105 : jI105 σ) (hI106 : jI106 σ) (hI119 : jI119 σ) (hI111 : jI111 σ) (hs_jKept : jKept σ) (hs_jTR : jTR σ) (hs_jqSt : jqSt σ) (hp0 : (σ 55 10).toInt ≤ 5) (hp1 : 2 ≤ (σ 55 10).toInt) (hp2 : (σ 55 12).toInt ≤ 8) (hp3 : 0 ≤ (σ 55 42).toInt ∧ (σ 55 42).toInt ≤ 999999872) : jMv l yX12_orders cX12_orders 6 none ({ frames := 107, cells := 0, slots := 0, locals := 5156 }) D cI cL ad zz [.ref (ad 55), .int 2, .int a2, .int a3] σ τ (fun σ' τ' => τ = τ' ∧ (∀ i : Nat, (i < 55 ∨ 55 < i) ∧ (i < 62 ∨ 62 < i) ∧ (i < 66 ∨ 66 < i) ∧ (i < 68 ∨ 69 < i) ∧ (i < 74 ∨ 78 < i) → σ' i = σ i) ∧ (∀ k : Nat, (k < 18 ∨ 18 < k) ∧ (k < 19 ∨ 19 < k) ∧ (k < 20 ∨ 20 < k) ∧ (k < 21 ∨ 21 < k) ∧ (k < 22 ∨ 22 < k) ∧ (k < 25 ∨ 25 < k) ∧ (k < 26 ∨ 26 < k) ∧ (k < 27 ∨ 27 < k) ∧ (k < 37 ∨ 37 < k) ∧ (k < 42 ∨ 42 < k) ∧ (k < 45 ∨ 45 < k) ∧ (k < 46 ∨ 46 < k) → σ' 55 k = σ 55 k) ∧ (jI104 σ') ∧ (jI119 σ') ∧ (jKept σ') ∧ (jTR σ') ∧ (jqSt σ') ∧ ((σ 55 42).toInt ≤ (σ' 55 42).toInt) ∧ ((σ' 55 42).toInt ≤ (σ 55 42).toInt + 64) ∧ True) := by
  refine jMv.of hJ (by decide +kernel) rfl (Nat.le_of_ble_eq_true rfl) ?_
  intro p e s m args below meth c Q ls hC hret hl hP
  obtain ⟨hx, hb, hr, hml, hown, hts, hK, -, hlocks, hZ⟩ := hC
  have hown : s.vm.findClass RX12 = some m.cls := hown
  have hS : va_S (jA ad) s.heap s.heap [] := va_S.rf
  have hA : ∀ q, jA ad q → jA ad q := fun _ h => h
  have hl : lv_has ls 6 [(0, .ref (ad 55)), (1, .int 2), (2, .int a2), (3, .int a3)] := hl
  have g2 := jrg t2
  have g3 := jrg t3
  obtain ⟨i1, i2, i3, w4, w5⟩ : (1 ≤ (σ 55 10).toInt ∧ (σ 55 10).toInt ≤ 8) ∧ (1 ≤ (σ 55 12).toInt ∧ (σ 55 12).toInt ≤ 12) ∧ (0 ≤ (σ 55 13).toInt ∧ (σ 55 13).toInt ≤ 999) ∧ (∀ k : Nat, k < 8 → 0 ≤ (σ 62 k).toInt ∧ (σ 62 k).toInt ≤ 3) ∧ (∀ k : Nat, k < 8 → 0 ≤ (σ 67 k).toInt ∧ (σ 67 k).toInt ≤ 3) := id hI104
  have w6 : ∀ k : Nat, k < 5 → 0 ≤ (σ 79 k).toInt ∧ (σ 79 k).toInt ≤ 3 := hI111
  refine lv_iload_n hx hb dX12_orders_0 rfl (lv_at hl 1 rfl) ?_
  refine lv_aload_n hx hb dX12_orders_1 rfl (lv_at hl 0 rfl) ?_
  refine va_get (D := D) hx hb hts inlX12 hown hK hP 55 (jc_55 cI cL ad σ τ) rfl 10 (of_decide_eq_true rfl) (hts _ kw_8_15) (fun _ h9 => h9) rfl dX12_orders_2 ?_
  refine lv_icmp_ne (tgt := 35) hx hb dX12_orders_5 (of_decide_eq_true rfl) (fun c7 => ?_) (fun c7 => ?_)
  · have kc7 := jne c7 jz_2 rfl
    refine lv_iconst (v := 0) hx hb dX12_orders_35 (of_decide_eq_true rfl) ?_
    refine lv_istore (lv' := [(4, .int 0), (0, .ref (ad 55)), (1, .int 2), (2, .int a2), (3, .int a3)]) hx hb dX12_orders_36 hl (of_decide_eq_true rfl) rfl (fun ls hl => ?_)
    have lp8 : ∀ (n9 : Nat) (x10 : Int32) (σ12 : Nat → Nat → Int32) (H : Heap) (locs : List Loc) (ls : Array Slot), (-x10.toInt + 4 : Int) < n9 → 0 ≤ x10.toInt → x10.toInt ≤ 4 → (σ 55 42).toInt ≤ (σ12 55 42).toInt → (σ12 55 42).toInt ≤ (σ 55 42).toInt + 16 * x10.toInt → (∀ i : Nat, (i < 55 ∨ 55 < i) ∧ (i < 62 ∨ 62 < i) ∧ (i < 66 ∨ 66 < i) ∧ (i < 68 ∨ 69 < i) ∧ (i < 74 ∨ 78 < i) → σ12 i = σ i) → (∀ k : Nat, (k < 18 ∨ 18 < k) ∧ (k < 19 ∨ 19 < k) ∧ (k < 20 ∨ 20 < k) ∧ (k < 21 ∨ 21 < k) ∧ (k < 22 ∨ 22 < k) ∧ (k < 25 ∨ 25 < k) ∧ (k < 26 ∨ 26 < k) ∧ (k < 27 ∨ 27 < k) ∧ (k < 37 ∨ 37 < k) ∧ (k < 42 ∨ 42 < k) ∧ (k < 45 ∨ 45 < k) ∧ (k < 46 ∨ 46 < k) → σ12 55 k = σ 55 k) → jKept σ12 → jqSt σ12 → jI104 σ12 → jI119 σ12 → jH D cI cL ad σ12 τ H → va_S (jA ad) s.heap H locs → lv_has ls 6 [(4, .int x10), (0, .ref (ad 55)), (1, .int 2), (2, .int a2), (3, .int a3)] → W p l e ({ frames := 107, cells := 0, slots := 0, locals := 5156 }) s m args below meth c H locs 0 0 Q (F0 m 38 ls []) := by
      intro n9
      induction n9 with
      | zero => intro x10 σ12 H locs ls h14 h15 h16 h17 h18; exact absurd h14 (by omega)
      | succ n9 ihlp8 =>
        intro x10 σ12 H locs ls h14 h15 h16 h17 h18 f19 f20 p21 p22 p23 p24 hP hS hl
        exact by
         obtain ⟨i25, i26, i27, w28, w29⟩ : (1 ≤ (σ12 55 10).toInt ∧ (σ12 55 10).toInt ≤ 8) ∧ (1 ≤ (σ12 55 12).toInt ∧ (σ12 55 12).toInt ≤ 12) ∧ (0 ≤ (σ12 55 13).toInt ∧ (σ12 55 13).toInt ≤ 999) ∧ (∀ k : Nat, k < 8 → 0 ≤ (σ12 62 k).toInt ∧ (σ12 62 k).toInt ≤ 3) ∧ (∀ k : Nat, k < 8 → 0 ≤ (σ12 67 k).toInt ∧ (σ12 67 k).toInt ≤ 3) := id p23
         have z30 : (σ12 55 10).toInt = (σ 55 10).toInt := (congrArg Int32.toInt (show σ12 55 10 = (σ 55 10) from (f20 10 (of_decide_eq_true rfl))))
         have z31 : (σ12 55 12).toInt = (σ 55 12).toInt := (congrArg Int32.toInt (show σ12 55 12 = (σ 55 12) from (f20 12 (of_decide_eq_true rfl))))
         have z32 : (σ12 55 13).toInt = (σ 55 13).toInt := (congrArg Int32.toInt (show σ12 55 13 = (σ 55 13) from (f20 13 (of_decide_eq_true rfl))))
         refine lv_iload hx hb dX12_orders_38 (lv_at hl 0 rfl) ?_
         refine lv_iconst (v := 4) hx hb dX12_orders_40 (of_decide_eq_true rfl) ?_
         refine lv_icmp_ge (tgt := 127) hx hb dX12_orders_41 (of_decide_eq_true rfl) (fun c33 => ?_) (fun c33 => ?_)
         · have kc33 := jle c33 jz_4 rfl
           have p34 : jTR σ12 := jTR.fr (f19 64 (of_decide_eq_true rfl)) (f19 65 (of_decide_eq_true rfl)) hs_jTR
           exact by exact hret σ12 τ _ _ _ _ ⟨rfl, (fun i hi => (f19 i hi)), (fun i hi => (f20 i hi)), p23, p24, p21, p34, p22, (by omega), (by omega), trivial⟩ hP hS dX12_orders_127
         · have kc33 := jnle c33 jz_4 rfl
           refine lv_iconst (v := 0) hx hb dX12_orders_44 (of_decide_eq_true rfl) ?_
           refine lv_istore (lv' := [(5, .int 0), (4, .int x10), (0, .ref (ad 55)), (1, .int 2), (2, .int a2), (3, .int a3)]) hx hb dX12_orders_45 hl (of_decide_eq_true rfl) rfl (fun ls hl => ?_)
           have lp35 : ∀ (n36 : Nat) (x37 : Int32) (H : Heap) (locs : List Loc) (ls : Array Slot), ((σ12 55 10).toInt - x37.toInt : Int) < n36 → 0 ≤ x37.toInt → x37.toInt ≤ 5 → x37.toInt ≤ (σ12 55 10).toInt → jH D cI cL ad σ12 τ H → va_S (jA ad) s.heap H locs → lv_has ls 6 [(5, .int x37), (4, .int x10), (0, .ref (ad 55)), (1, .int 2), (2, .int a2), (3, .int a3)] → W p l e ({ frames := 107, cells := 0, slots := 0, locals := 5156 }) s m args below meth c H locs 0 0 Q (F0 m 47 ls []) := by
             intro n36
             induction n36 with
             | zero => intro x37 H locs ls h39 h40 h41 h42; exact absurd h39 (by omega)
             | succ n36 ihlp35 =>
               intro x37 H locs ls h39 h40 h41 h42 hP hS hl
               exact by
                refine lv_iload hx hb dX12_orders_47 (lv_at hl 0 rfl) ?_
                refine lv_aload_n hx hb dX12_orders_49 rfl (lv_at hl 2 rfl) ?_
                refine va_get (D := D) hx hb hts inlX12 hown hK hP 55 (jc_55 cI cL ad σ12 τ) rfl 10 (of_decide_eq_true rfl) (hts _ kw_8_15) (fun _ h9 => h9) rfl dX12_orders_50 ?_
                have m44 : σ12 55 10 = (σ 55 10) := (f20 10 (of_decide_eq_true rfl))
                refine jtopr m44 ?_
                refine lv_icmp_ge (tgt := 84) hx hb dX12_orders_53 (of_decide_eq_true rfl) (fun c45 => ?_) (fun c45 => ?_)
                · have kc45 := jle c45 rfl rfl
                  refine lv_iload hx hb dX12_orders_84 (lv_at hl 0 rfl) ?_
                  refine lv_aload_n hx hb dX12_orders_86 rfl (lv_at hl 2 rfl) ?_
                  refine va_get (D := D) hx hb hts inlX12 hown hK hP 55 (jc_55 cI cL ad σ12 τ) rfl 10 (of_decide_eq_true rfl) (hts _ kw_8_15) (fun _ h9 => h9) rfl dX12_orders_87 ?_
                  refine jtopr m44 ?_
                  exact by
                   refine lv_icmp_ge (tgt := 121) hx hb dX12_orders_90 (of_decide_eq_true rfl) (fun c46 => ?_) (fun c => absurd (jnle c rfl rfl) (by omega))
                   have kc46 := jle c46 rfl rfl
                   obtain ⟨x47, ex47⟩ : ∃ y : Int32, y = x10 + 1 := ⟨_, rfl⟩
                   have tx47 : x47.toInt = x10.toInt + 1 := (jadd ex47 rfl jz_1 (by omega) (by omega)).trans (by omega)
                   refine lv_iinc (v := x47) (lv' := [(4, .int x47), (5, .int x37), (0, .ref (ad 55)), (1, .int 2), (2, .int a2), (3, .int a3)]) hx hb dX12_orders_121 hl (k := 1) rfl (by rw [ex47]; rfl) (of_decide_eq_true rfl) rfl (fun ls hl => ?_)
                   refine lv_goto (tgt := 38) hx hb dX12_orders_124 (of_decide_eq_true rfl) ?_
                   exact by exact ihlp8 x47 σ12 _ _ ls (by have h90 := tx47; omega) (by have h90 := tx47; omega) (by have h90 := tx47; omega) (by have h90 := tx47; omega) (by have h90 := tx47; omega) (fun i hi => (f19 i hi)) (fun i hi => (f20 i hi))  p21 p22 p23 p24 hP hS (lv_sub hl [0, 2, 3, 4, 5] rfl)
                · have kc45 := jnle c45 rfl rfl
                  refine lv_iload_n hx hb dX12_orders_56 rfl (lv_at hl 4 rfl) ?_
                  exact by
                   refine lv_iload hx hb dX12_orders_57 (lv_at hl 0 rfl) ?_
                   refine lv_ishr hx hb dX12_orders_59 ?_
                   refine lv_topi (fun x48 ex48 => ?_)
                   have gx48 := jrg (rfl : x48.toInt = x48.toInt)
                   refine lv_iconst (v := 1) hx hb dX12_orders_60 (of_decide_eq_true rfl) ?_
                   refine lv_iand hx hb dX12_orders_61 ?_
                   refine lv_topi (fun x49 ex49 => ?_)
                   have gx49 := jrg (rfl : x49.toInt = x49.toInt)
                   have g50 : 0 ≤ x49.toInt ∧ x49.toInt ≤ 1 := jmask ex49 1 (of_decide_eq_true rfl) (of_decide_eq_true rfl)
                   refine lv_iconst (v := 1) hx hb dX12_orders_62 (of_decide_eq_true rfl) ?_
                   refine lv_icmp_eq (tgt := 78) hx hb dX12_orders_63 (of_decide_eq_true rfl) (fun c51 => ?_) (fun c51 => ?_)
                   · have kc51 := jeq c51 rfl jz_1
                     obtain ⟨x52, ex52⟩ : ∃ y : Int32, y = x37 + 1 := ⟨_, rfl⟩
                     exact by
                      have tx52 : x52.toInt = x37.toInt + 1 := (jadd ex52 rfl jz_1 (by omega) (by omega)).trans (by omega)
                      refine lv_iinc (v := x52) (lv' := [(5, .int x52), (4, .int x10), (0, .ref (ad 55)), (1, .int 2), (2, .int a2), (3, .int a3)]) hx hb dX12_orders_78 hl (k := 0) rfl (by rw [ex52]; rfl) (of_decide_eq_true rfl) rfl (fun ls hl => ?_)
                      refine lv_goto (tgt := 47) hx hb dX12_orders_81 (of_decide_eq_true rfl) ?_
                      exact by exact ihlp35 x52 _ _ ls (by have h90 := tx52; omega) (by have h90 := tx52; omega) (by have h90 := tx52; omega) (by have h90 := tx52; omega)    hP hS (lv_sub hl [0, 1, 2, 3, 4, 5] rfl)
                   · have kc51 := jne c51 rfl jz_1
                     refine lv_aload_n hx hb dX12_orders_66 rfl (lv_at hl 2 rfl) ?_
                     refine va_get (D := D) hx hb hts inlX12 hown hK hP 55 (jc_55 cI cL ad σ12 τ) rfl 44 (of_decide_eq_true rfl) (hts _ kw_8_4) (fun _ h9 => h9) rfl dX12_orders_67 ?_
                     refine lv_iload hx hb dX12_orders_70 (lv_at hl 0 rfl) ?_
                     refine jald hx hb hK hP (jc_79 cI cL ad σ12 τ) (jin rfl (by omega) (by omega)) dX12_orders_72 ?_
                     exact by
                      have w53 : ∀ k : Nat, k < 5 → 0 ≤ (σ12 79 k).toInt ∧ (σ12 79 k).toInt ≤ 3 := (jrr_fr (f19 79 (of_decide_eq_true rfl)) w6)
                      have g54 := w53 _ (jnat (x := x37) rfl (n := 5) (by omega) (of_decide_eq_true rfl))
                      refine lv_topi (fun x55 ex55 => ?_)
                      rw [← ex55] at g54
                      refine lv_iload hx hb dX12_orders_73 (lv_at hl 1 rfl) ?_
                      refine lv_icmp_eq (tgt := 84) hx hb dX12_orders_75 (of_decide_eq_true rfl) (fun c56 => ?_) (fun c56 => ?_)
                      · have kc56 := jeq c56 rfl rfl
                        refine lv_iload hx hb dX12_orders_84 (lv_at hl 0 rfl) ?_
                        refine lv_aload_n hx hb dX12_orders_86 rfl (lv_at hl 2 rfl) ?_
                        exact by
                         refine va_get (D := D) hx hb hts inlX12 hown hK hP 55 (jc_55 cI cL ad σ12 τ) rfl 10 (of_decide_eq_true rfl) (hts _ kw_8_15) (fun _ h9 => h9) rfl dX12_orders_87 ?_
                         refine jtopr m44 ?_
                         refine lv_icmp_ge (tgt := 121) hx hb dX12_orders_90 (of_decide_eq_true rfl) (fun c => absurd (jle c rfl rfl) (by omega)) (fun c57 => ?_)
                         have kc57 := jnle c57 rfl rfl
                         refine lv_aload_n hx hb dX12_orders_93 rfl (lv_at hl 2 rfl) ?_
                         refine va_get (D := D) hx hb hts inlX12 hown hK hP 55 (jc_55 cI cL ad σ12 τ) rfl 11 (of_decide_eq_true rfl) (hts _ kw_7_8) (fun _ h9 => h9) rfl dX12_orders_94 ?_
                         refine lv_iload_n hx hb dX12_orders_97 rfl (lv_at hl 3 rfl) ?_
                         refine lv_iload hx hb dX12_orders_98 (lv_at hl 1 rfl) ?_
                         refine jast hx hb hK hP hJ hA hS (jc_62 cI cL ad σ12 τ) (ja_62 cI cL ad σ12 τ _ _) (jin jz_2 (by omega) (by omega)) dX12_orders_100 (fun σ58 H locs eσ58 hP hS => ?_)
                         exact by
                          have eσ58 : σ58 = jup σ12 62 2 x10 := eσ58
                          refine lv_aload_n hx hb dX12_orders_101 rfl (lv_at hl 2 rfl) ?_
                          refine lv_iload_n hx hb dX12_orders_102 rfl (lv_at hl 3 rfl) ?_
                          refine lv_iconst (v := 1) hx hb dX12_orders_103 (of_decide_eq_true rfl) ?_
                          refine lv_iadd hx hb dX12_orders_104 ?_
                          refine jtopr (y := 3) (of_decide_eq_true rfl) ?_
                          refine lv_iload_n hx hb dX12_orders_105 rfl (lv_at hl 4 rfl) ?_
                          refine lv_iconst (v := 1) hx hb dX12_orders_106 (of_decide_eq_true rfl) ?_
                          refine lv_iload hx hb dX12_orders_107 (lv_at hl 0 rfl) ?_
                          refine lv_ishl hx hb dX12_orders_109 ?_
                          refine lv_topi (fun x59 ex59 => ?_)
                          have gx59 := jrg (rfl : x59.toInt = x59.toInt)
                          refine lv_ior hx hb dX12_orders_110 ?_
                          refine lv_topi (fun x60 ex60 => ?_)
                          have gx60 := jrg (rfl : x60.toInt = x60.toInt)
                          refine lv_bipush (v := 10) hx hb dX12_orders_111 (of_decide_eq_true rfl) ?_
                          refine lv_iload_n hx hb dX12_orders_113 rfl (lv_at hl 5 rfl) ?_
                          refine lv_imul hx hb dX12_orders_114 ?_
                          refine lv_topi (fun x61 ex61 => ?_)
                          have gx61 := jrg (rfl : x61.toInt = x61.toInt)
                          refine lv_iload hx hb dX12_orders_115 (lv_at hl 1 rfl) ?_
                          have g62 := jrg (rfl : x61.toInt = x61.toInt)
                          have g63 := jrg (rfl : x10.toInt = x10.toInt)
                          refine lv_iadd hx hb dX12_orders_117 ?_
                          refine lv_topi (fun x64 ex64 => ?_)
                          have gx64 := jrg (rfl : x64.toInt = x64.toInt)
                          have I65 : jI101 σ58 := jI101_fr ((congrFun (jnp 55 eσ58 (of_decide_eq_true rfl)) 4).trans (f20 4 (of_decide_eq_true rfl))) ((congrFun (jnp 55 eσ58 (of_decide_eq_true rfl)) 5).trans (f20 5 (of_decide_eq_true rfl))) ((jnp 56 eσ58 (of_decide_eq_true rfl)).trans (f19 56 (of_decide_eq_true rfl))) ((jnp 57 eσ58 (of_decide_eq_true rfl)).trans (f19 57 (of_decide_eq_true rfl))) ((jnp 58 eσ58 (of_decide_eq_true rfl)).trans (f19 58 (of_decide_eq_true rfl))) ((jnp 59 eσ58 (of_decide_eq_true rfl)).trans (f19 59 (of_decide_eq_true rfl))) hI101
                          have I66 : jI102 σ58 := jI102_fr ((congrFun (jnp 55 eσ58 (of_decide_eq_true rfl)) 6).trans (f20 6 (of_decide_eq_true rfl))) ((jnp 60 eσ58 (of_decide_eq_true rfl)).trans (f19 60 (of_decide_eq_true rfl))) ((jnp 61 eσ58 (of_decide_eq_true rfl)).trans (f19 61 (of_decide_eq_true rfl))) hI102
                          have I67 : jI103 σ58 := jI103_fr ((congrFun (jnp 55 eσ58 (of_decide_eq_true rfl)) 9).trans (f20 9 (of_decide_eq_true rfl))) hI103
                          have z68 : (σ58 55 10).toInt = (σ 55 10).toInt := (congrArg Int32.toInt (show σ58 55 10 = (σ 55 10) from ((congrFun (jnp 55 eσ58 (of_decide_eq_true rfl)) 10).trans m44)))
                          have z69 : (σ58 55 12).toInt = (σ 55 12).toInt := (congrArg Int32.toInt (show σ58 55 12 = (σ 55 12) from ((congrFun (jnp 55 eσ58 (of_decide_eq_true rfl)) 12).trans (f20 12 (of_decide_eq_true rfl)))))
                          have z70 : (σ58 55 13).toInt = (σ 55 13).toInt := (congrArg Int32.toInt (show σ58 55 13 = (σ 55 13) from ((congrFun (jnp 55 eσ58 (of_decide_eq_true rfl)) 13).trans (f20 13 (of_decide_eq_true rfl)))))
                          exact by
                           have w71 : ∀ k : Nat, k < 8 → 0 ≤ (σ58 62 k).toInt ∧ (σ58 62 k).toInt ≤ 3 := (by rw [eσ58]; exact jrr_up w28 (by omega) (by omega))
                           have w72 : ∀ k : Nat, k < 8 → 0 ≤ (σ58 67 k).toInt ∧ (σ58 67 k).toInt ≤ 3 := (jrr_fr (jnp 67 eσ58 (of_decide_eq_true rfl)) w29)
                           have I73 : jI104 σ58 := ⟨(by omega), (by omega), (by omega), w71, w72⟩
                           have I74 : jI105 σ58 := jI105_fr ((congrFun (jnp 55 eσ58 (of_decide_eq_true rfl)) 15).trans (f20 15 (of_decide_eq_true rfl))) ((jnp 65 eσ58 (of_decide_eq_true rfl)).trans (f19 65 (of_decide_eq_true rfl))) hI105
                           have I75 : jI106 σ58 := jI106_fr ((congrFun (jnp 55 eσ58 (of_decide_eq_true rfl)) 32).trans (f20 32 (of_decide_eq_true rfl))) ((jnp 70 eσ58 (of_decide_eq_true rfl)).trans (f19 70 (of_decide_eq_true rfl))) ((jnp 71 eσ58 (of_decide_eq_true rfl)).trans (f19 71 (of_decide_eq_true rfl))) ((jnp 72 eσ58 (of_decide_eq_true rfl)).trans (f19 72 (of_decide_eq_true rfl))) hI106
                           have I76 : jI119 σ58 := jI119_fr (jnp 68 eσ58 (of_decide_eq_true rfl)) p24
                           have I77 : jI111 σ58 := jI111_fr ((jnp 79 eσ58 (of_decide_eq_true rfl)).trans (f19 79 (of_decide_eq_true rfl))) hI111
                           have p78 : jKept σ58 := jKept.fr (jnp 75 eσ58 (of_decide_eq_true rfl)) (jnp 76 eσ58 (of_decide_eq_true rfl)) (jnp 77 eσ58 (of_decide_eq_true rfl)) p21
                           have p79 : jTR σ58 := jTR.fr ((jnp 64 eσ58 (of_decide_eq_true rfl)).trans (f19 64 (of_decide_eq_true rfl))) ((jnp 65 eσ58 (of_decide_eq_true rfl)).trans (f19 65 (of_decide_eq_true rfl))) hs_jTR
                           exact by
                            have p80 : jqSt σ58 := jqSt.fr (jnp 78 eσ58 (of_decide_eq_true rfl)) (congrFun (jnp 55 eσ58 (of_decide_eq_true rfl)) 42) p22
                            have z81 : (σ58 55 42).toInt = (σ12 55 42).toInt := (congrArg Int32.toInt (show σ58 55 42 = (σ12 55 42) from (congrFun (jnp 55 eσ58 (of_decide_eq_true rfl)) 42)))
                            refine jcallVv (As := [.int 3, .int x60, .int x64]) (rest := []) ⟨hx, hb, hml, hown, hts⟩ hK hP hA hS hZ (c_X12_orders_3 l D cI cL ad zz hJ σ58 τ x60 (x60.toInt) rfl x64 (x64.toInt) rfl I65 I66 I67 I73 I74 I75 I76 I77 p78 p79 p80 (by omega) (by omega) (by omega) (by omega)) cw_RX12_355 (jc_55 cI cL ad σ58 τ) rfl ⟨Nat.le_of_ble_eq_true rfl, Nat.le_of_ble_eq_true rfl⟩ rfl rfl rfl hl.1 rfl (Nat.le_of_ble_eq_true rfl) dX12_orders_118 ⟨Nat.zero_le _, Nat.zero_le _⟩ (fun σ82 τ82 H locs h82 hP hS => ?_)
                            obtain ⟨rfl, f84, f85, I86, I87, p88, p89, p90, h82⟩ := h82
                            obtain ⟨i92, i93, i94, w95, w96⟩ : (1 ≤ (σ82 55 10).toInt ∧ (σ82 55 10).toInt ≤ 8) ∧ (1 ≤ (σ82 55 12).toInt ∧ (σ82 55 12).toInt ≤ 12) ∧ (0 ≤ (σ82 55 13).toInt ∧ (σ82 55 13).toInt ≤ 999) ∧ (∀ k : Nat, k < 8 → 0 ≤ (σ82 62 k).toInt ∧ (σ82 62 k).toInt ≤ 3) ∧ (∀ k : Nat, k < 8 → 0 ≤ (σ82 67 k).toInt ∧ (σ82 67 k).toInt ≤ 3) := id I86
                            have z97 : (σ82 55 10).toInt = (σ 55 10).toInt := (congrArg Int32.toInt (show σ82 55 10 = (σ 55 10) from ((f85 10 (of_decide_eq_true rfl)).trans ((congrFun (jnp 55 eσ58 (of_decide_eq_true rfl)) 10).trans m44))))
                            have z98 : (σ82 55 12).toInt = (σ 55 12).toInt := (congrArg Int32.toInt (show σ82 55 12 = (σ 55 12) from ((f85 12 (of_decide_eq_true rfl)).trans ((congrFun (jnp 55 eσ58 (of_decide_eq_true rfl)) 12).trans (f20 12 (of_decide_eq_true rfl))))))
                            have z99 : (σ82 55 13).toInt = (σ 55 13).toInt := (congrArg Int32.toInt (show σ82 55 13 = (σ 55 13) from ((f85 13 (of_decide_eq_true rfl)).trans ((congrFun (jnp 55 eσ58 (of_decide_eq_true rfl)) 13).trans (f20 13 (of_decide_eq_true rfl))))))
                            obtain ⟨k100, k101, h82⟩ := h82
                            exact by
                             obtain ⟨x102, ex102⟩ : ∃ y : Int32, y = x10 + 1 := ⟨_, rfl⟩
                             have tx102 : x102.toInt = x10.toInt + 1 := (jadd ex102 rfl jz_1 (by omega) (by omega)).trans (by omega)
                             refine lv_iinc (v := x102) (lv' := [(4, .int x102), (5, .int x37), (0, .ref (ad 55)), (1, .int 2), (2, .int a2), (3, .int a3)]) hx hb dX12_orders_121 hl (k := 1) rfl (by rw [ex102]; rfl) (of_decide_eq_true rfl) rfl (fun ls hl => ?_)
                             refine lv_goto (tgt := 38) hx hb dX12_orders_124 (of_decide_eq_true rfl) ?_
                             exact by exact ihlp8 x102 σ82 _ _ ls (by have h90 := tx102; omega) (by have h90 := tx102; omega) (by have h90 := tx102; omega) (by have h90 := tx102; omega) (by have h90 := tx102; omega) (fun i hi => ((f84 i hi).trans ((jnp i eσ58 (imp_276 i hi)).trans (f19 i hi)))) (fun i hi => ((f85 i hi).trans ((congrFun (jnp 55 eσ58 (of_decide_eq_true rfl)) i).trans (f20 i hi))))  p88 p90 I86 I87 hP hS (lv_sub hl [0, 2, 3, 4, 5] rfl)
                      · have kc56 := jne c56 rfl rfl
                        obtain ⟨x103, ex103⟩ : ∃ y : Int32, y = x37 + 1 := ⟨_, rfl⟩
                        have tx103 : x103.toInt = x37.toInt + 1 := (jadd ex103 rfl jz_1 (by omega) (by omega)).trans (by omega)
                        refine lv_iinc (v := x103) (lv' := [(5, .int x103), (4, .int x10), (0, .ref (ad 55)), (1, .int 2), (2, .int a2), (3, .int a3)]) hx hb dX12_orders_78 hl (k := 0) rfl (by rw [ex103]; rfl) (of_decide_eq_true rfl) rfl (fun ls hl => ?_)
                        exact by
                         refine lv_goto (tgt := 47) hx hb dX12_orders_81 (of_decide_eq_true rfl) ?_
                         exact by exact ihlp35 x103 _ _ ls (by have h90 := tx103; omega) (by have h90 := tx103; omega) (by have h90 := tx103; omega) (by have h90 := tx103; omega)    hP hS (lv_sub hl [0, 1, 2, 3, 4, 5] rfl)
           exact by exact lp35 1000000 0 _ _ ls (by have h90 := jz_0; omega) (by have h90 := jz_0; omega) (by have h90 := jz_0; omega) (by have h90 := jz_0; omega)   hP hS hl
    exact by exact lp8 1000000 0 σ _ _ ls (by have h90 := jz_0; omega) (by have h90 := jz_0; omega) (by have h90 := jz_0; omega) (by have h90 := jz_0; omega) (by have h90 := jz_0; omega) (fun _ _ => rfl) (fun _ _ => rfl)  hs_jKept hs_jqSt hI104 hI119 hP hS hl
  · have kc7 := jeq c7 jz_2 rfl
    refine lv_aload_n hx hb dX12_orders_8 rfl (lv_at hl 0 rfl) ?_
    refine jcallV (As := []) (rest := []) ⟨hx, hb, hml, hown, hts⟩ hK hP hA hS hZ (c_X12_bestNow l D cI cL ad zz hJ σ τ hI101 hI102 hI103 hI104 hI105 hI106 hI119 hs_jKept hs_jTR hs_jqSt (by omega) (by omega)) cw_RX12_346 (jc_55 cI cL ad σ τ) rfl ⟨Nat.le_of_ble_eq_true rfl, Nat.le_of_ble_eq_true rfl⟩ rfl rfl rfl hl.1 rfl (Nat.le_of_ble_eq_true rfl) dX12_orders_9 ⟨Nat.zero_le _, Nat.zero_le _⟩ (fun r105 σ104 τ104 H locs h104 hP hS => ?_)
    obtain ⟨rfl, f106, f107, I108, p109, p110, p111, w112, h104⟩ := h104
    obtain ⟨k114, k115, h104⟩ := h104
    exact by
     have h116 := h104
     obtain ⟨q118, k117⟩ := h116
     refine lv_istore (lv' := [(4, .int r105), (0, .ref (ad 55)), (1, .int 2), (2, .int a2), (3, .int a3)]) hx hb dX12_orders_12 hl (of_decide_eq_true rfl) rfl (fun ls hl => ?_)
     refine lv_iload hx hb dX12_orders_14 (lv_at hl 0 rfl) ?_
     refine lv_aload_n hx hb dX12_orders_16 rfl (lv_at hl 1 rfl) ?_
     refine va_get (D := D) hx hb hts inlX12 hown hK hP 55 (jc_55 cI cL ad σ104 τ) rfl 46 (of_decide_eq_true rfl) (hts _ kw_40_17) (fun _ h9 => h9) rfl dX12_orders_17 ?_
     have m119 : σ104 55 46 = (σ 55 46) := (f107 46 (of_decide_eq_true rfl))
     refine jtopr m119 ?_
     refine lv_icmp_le (tgt := 34) hx hb dX12_orders_20 (of_decide_eq_true rfl) (fun c120 => ?_) (fun c120 => ?_)
     · have kc120 := jle c120 rfl rfl
       have I121 : jI104 σ104 := jI104_fr (f107 10 (of_decide_eq_true rfl)) (f107 12 (of_decide_eq_true rfl)) (f107 13 (of_decide_eq_true rfl)) (f106 62 (of_decide_eq_true rfl)) (f106 67 (of_decide_eq_true rfl)) hI104
       exact by exact hret σ104 τ _ _ _ _ ⟨rfl, (fun i hi => (f106 i (imp_271 i hi))), (fun i hi => (f107 i (imp_272 i hi))), I121, I108, p109, p110, p111, (by omega), (by omega), trivial⟩ hP hS dX12_orders_34
     · have kc120 := jnle c120 rfl rfl
       refine lv_aload_n hx hb dX12_orders_23 rfl (lv_at hl 1 rfl) ?_
       refine lv_iload hx hb dX12_orders_24 (lv_at hl 0 rfl) ?_
       refine jput (ty := .int) hx hb hts inlX12 tyX12 tyX12_ok nmX12 hown hK hP hJ hA hS (jc_55 cI cL ad σ104 τ) rfl (k := 46) (of_decide_eq_true rfl) (Nat.le_of_ble_eq_true rfl) (jp_55_46 cI cL ad σ104 τ r105) (hts _ kw_40_17) (fun _ h9 => h9) rfl (by decide +kernel) rfl rfl dX12_orders_26 (fun σ122 H locs eσ122 hP hS => ?_)
       refine lv_aload_n hx hb dX12_orders_29 rfl (lv_at hl 1 rfl) ?_
       refine lv_iload_n hx hb dX12_orders_30 rfl (lv_at hl 4 rfl) ?_
       refine jput (ty := .int) hx hb hts inlX12 tyX12 tyX12_ok nmX12 hown hK hP hJ hA hS (jc_55 cI cL ad σ122 τ) rfl (k := 45) (of_decide_eq_true rfl) (Nat.le_of_ble_eq_true rfl) (jp_55_45 cI cL ad σ122 τ a3) (hts _ kw_40_18) (fun _ h9 => h9) rfl (by decide +kernel) rfl rfl dX12_orders_31 (fun σ123 H locs eσ123 hP hS => ?_)
       have I124 : jI104 σ123 := jI104_fr ((jkp 10 eσ123 (of_decide_eq_true rfl)).trans ((jkp 10 eσ122 (of_decide_eq_true rfl)).trans (f107 10 (of_decide_eq_true rfl)))) ((jkp 12 eσ123 (of_decide_eq_true rfl)).trans ((jkp 12 eσ122 (of_decide_eq_true rfl)).trans (f107 12 (of_decide_eq_true rfl)))) ((jkp 13 eσ123 (of_decide_eq_true rfl)).trans ((jkp 13 eσ122 (of_decide_eq_true rfl)).trans (f107 13 (of_decide_eq_true rfl)))) ((jnp 62 eσ123 (of_decide_eq_true rfl)).trans ((jnp 62 eσ122 (of_decide_eq_true rfl)).trans (f106 62 (of_decide_eq_true rfl)))) ((jnp 67 eσ123 (of_decide_eq_true rfl)).trans ((jnp 67 eσ122 (of_decide_eq_true rfl)).trans (f106 67 (of_decide_eq_true rfl)))) hI104
       have I125 : jI119 σ123 := jI119_fr ((jnp 68 eσ123 (of_decide_eq_true rfl)).trans (jnp 68 eσ122 (of_decide_eq_true rfl))) I108
       have p126 : jKept σ123 := jKept.fr ((jnp 75 eσ123 (of_decide_eq_true rfl)).trans (jnp 75 eσ122 (of_decide_eq_true rfl))) ((jnp 76 eσ123 (of_decide_eq_true rfl)).trans (jnp 76 eσ122 (of_decide_eq_true rfl))) ((jnp 77 eσ123 (of_decide_eq_true rfl)).trans (jnp 77 eσ122 (of_decide_eq_true rfl))) p109
       have p127 : jTR σ123 := jTR.fr ((jnp 64 eσ123 (of_decide_eq_true rfl)).trans (jnp 64 eσ122 (of_decide_eq_true rfl))) ((jnp 65 eσ123 (of_decide_eq_true rfl)).trans (jnp 65 eσ122 (of_decide_eq_true rfl))) p110
       have p128 : jqSt σ123 := jqSt.fr ((jnp 78 eσ123 (of_decide_eq_true rfl)).trans (jnp 78 eσ122 (of_decide_eq_true rfl))) ((jkp 42 eσ123 (of_decide_eq_true rfl)).trans (jkp 42 eσ122 (of_decide_eq_true rfl))) p111
       have z129 : (σ123 55 42).toInt = (σ104 55 42).toInt := (congrArg Int32.toInt (show σ123 55 42 = (σ104 55 42) from ((jkp 42 eσ123 (of_decide_eq_true rfl)).trans (jkp 42 eσ122 (of_decide_eq_true rfl)))))
       exact by exact hret σ123 τ _ _ _ _ ⟨rfl, (fun i hi => ((jnp i eσ123 (imp_273 i hi)).trans ((jnp i eσ122 (imp_273 i hi)).trans (f106 i (imp_271 i hi))))), (fun i hi => ((jkp i eσ123 (imp_274 i hi)).trans ((jkp i eσ122 (imp_275 i hi)).trans (f107 i (imp_272 i hi))))), I124, I125, p126, p127, p128, (by omega), (by omega), trivial⟩ hP hS dX12_orders_34
set_option maxHeartbeats 4000000 in
set_option maxRecDepth 100000 in
theorem c_X12_orders_1 (l : Launch) (D : va_G) (cI cL : ClassId) (ad zz : Nat → Nat) (hJ : jD ad) (σ : Nat → Nat → Int32) (τ : Nat → Nat → Int64) (a2 : Int32) (A2 : Int) (t2 : a2.toInt = A2) (a3 : Int32) (A3 : Int) (t3 : a3.toInt = A3) (hI101 : jI101 σ) (hI102 : jI102 σ) (hI103 : jI103 σ) (hI104 : jI104 σ) (hI105 : jI105 σ) (hI106 : jI106 σ) (hI119 : jI119 σ) (hI111 : jI111 σ) (hs_jKept : jKept σ) (hs_jTR : jTR σ) (hs_jqSt : jqSt σ) (hp0 : (σ 55 10).toInt ≤ 5) (hp1 : 1 ≤ (σ 55 10).toInt) (hp2 : (σ 55 12).toInt ≤ 8) (hp3 : 0 ≤ (σ 55 42).toInt ∧ (σ 55 42).toInt ≤ 999999488) : jMv l yX12_orders cX12_orders 6 none ({ frames := 108, cells := 0, slots := 0, locals := 5181 }) D cI cL ad zz [.ref (ad 55), .int 1, .int a2, .int a3] σ τ (fun σ' τ' => τ = τ' ∧ (∀ i : Nat, (i < 55 ∨ 55 < i) ∧ (i < 62 ∨ 62 < i) ∧ (i < 66 ∨ 66 < i) ∧ (i < 68 ∨ 69 < i) ∧ (i < 74 ∨ 78 < i) → σ' i = σ i) ∧ (∀ k : Nat, (k < 18 ∨ 18 < k) ∧ (k < 19 ∨ 19 < k) ∧ (k < 20 ∨ 20 < k) ∧ (k < 21 ∨ 21 < k) ∧ (k < 22 ∨ 22 < k) ∧ (k < 25 ∨ 25 < k) ∧ (k < 26 ∨ 26 < k) ∧ (k < 27 ∨ 27 < k) ∧ (k < 37 ∨ 37 < k) ∧ (k < 42 ∨ 42 < k) ∧ (k < 45 ∨ 45 < k) ∧ (k < 46 ∨ 46 < k) → σ' 55 k = σ 55 k) ∧ (jI104 σ') ∧ (jI119 σ') ∧ (jKept σ') ∧ (jTR σ') ∧ (jqSt σ') ∧ ((σ 55 42).toInt ≤ (σ' 55 42).toInt) ∧ ((σ' 55 42).toInt ≤ (σ 55 42).toInt + 256) ∧ True) := by
  refine jMv.of hJ (by decide +kernel) rfl (Nat.le_of_ble_eq_true rfl) ?_
  intro p e s m args below meth c Q ls hC hret hl hP
  obtain ⟨hx, hb, hr, hml, hown, hts, hK, -, hlocks, hZ⟩ := hC
  have hown : s.vm.findClass RX12 = some m.cls := hown
  have hS : va_S (jA ad) s.heap s.heap [] := va_S.rf
  have hA : ∀ q, jA ad q → jA ad q := fun _ h => h
  have hl : lv_has ls 6 [(0, .ref (ad 55)), (1, .int 1), (2, .int a2), (3, .int a3)] := hl
  have g2 := jrg t2
  have g3 := jrg t3
  obtain ⟨i1, i2, i3, w4, w5⟩ : (1 ≤ (σ 55 10).toInt ∧ (σ 55 10).toInt ≤ 8) ∧ (1 ≤ (σ 55 12).toInt ∧ (σ 55 12).toInt ≤ 12) ∧ (0 ≤ (σ 55 13).toInt ∧ (σ 55 13).toInt ≤ 999) ∧ (∀ k : Nat, k < 8 → 0 ≤ (σ 62 k).toInt ∧ (σ 62 k).toInt ≤ 3) ∧ (∀ k : Nat, k < 8 → 0 ≤ (σ 67 k).toInt ∧ (σ 67 k).toInt ≤ 3) := id hI104
  have w6 : ∀ k : Nat, k < 5 → 0 ≤ (σ 79 k).toInt ∧ (σ 79 k).toInt ≤ 3 := hI111
  refine lv_iload_n hx hb dX12_orders_0 rfl (lv_at hl 1 rfl) ?_
  refine lv_aload_n hx hb dX12_orders_1 rfl (lv_at hl 0 rfl) ?_
  refine va_get (D := D) hx hb hts inlX12 hown hK hP 55 (jc_55 cI cL ad σ τ) rfl 10 (of_decide_eq_true rfl) (hts _ kw_8_15) (fun _ h9 => h9) rfl dX12_orders_2 ?_
  refine lv_icmp_ne (tgt := 35) hx hb dX12_orders_5 (of_decide_eq_true rfl) (fun c7 => ?_) (fun c7 => ?_)
  · have kc7 := jne c7 jz_1 rfl
    refine lv_iconst (v := 0) hx hb dX12_orders_35 (of_decide_eq_true rfl) ?_
    refine lv_istore (lv' := [(4, .int 0), (0, .ref (ad 55)), (1, .int 1), (2, .int a2), (3, .int a3)]) hx hb dX12_orders_36 hl (of_decide_eq_true rfl) rfl (fun ls hl => ?_)
    have lp8 : ∀ (n9 : Nat) (x10 : Int32) (σ12 : Nat → Nat → Int32) (H : Heap) (locs : List Loc) (ls : Array Slot), (-x10.toInt + 4 : Int) < n9 → 0 ≤ x10.toInt → x10.toInt ≤ 4 → (σ 55 42).toInt ≤ (σ12 55 42).toInt → (σ12 55 42).toInt ≤ (σ 55 42).toInt + 64 * x10.toInt → (∀ i : Nat, (i < 55 ∨ 55 < i) ∧ (i < 62 ∨ 62 < i) ∧ (i < 66 ∨ 66 < i) ∧ (i < 68 ∨ 69 < i) ∧ (i < 74 ∨ 78 < i) → σ12 i = σ i) → (∀ k : Nat, (k < 18 ∨ 18 < k) ∧ (k < 19 ∨ 19 < k) ∧ (k < 20 ∨ 20 < k) ∧ (k < 21 ∨ 21 < k) ∧ (k < 22 ∨ 22 < k) ∧ (k < 25 ∨ 25 < k) ∧ (k < 26 ∨ 26 < k) ∧ (k < 27 ∨ 27 < k) ∧ (k < 37 ∨ 37 < k) ∧ (k < 42 ∨ 42 < k) ∧ (k < 45 ∨ 45 < k) ∧ (k < 46 ∨ 46 < k) → σ12 55 k = σ 55 k) → jKept σ12 → jqSt σ12 → jI104 σ12 → jI119 σ12 → jH D cI cL ad σ12 τ H → va_S (jA ad) s.heap H locs → lv_has ls 6 [(4, .int x10), (0, .ref (ad 55)), (1, .int 1), (2, .int a2), (3, .int a3)] → W p l e ({ frames := 108, cells := 0, slots := 0, locals := 5181 }) s m args below meth c H locs 0 0 Q (F0 m 38 ls []) := by
      intro n9
      induction n9 with
      | zero => intro x10 σ12 H locs ls h14 h15 h16 h17 h18; exact absurd h14 (by omega)
      | succ n9 ihlp8 =>
        intro x10 σ12 H locs ls h14 h15 h16 h17 h18 f19 f20 p21 p22 p23 p24 hP hS hl
        exact by
         obtain ⟨i25, i26, i27, w28, w29⟩ : (1 ≤ (σ12 55 10).toInt ∧ (σ12 55 10).toInt ≤ 8) ∧ (1 ≤ (σ12 55 12).toInt ∧ (σ12 55 12).toInt ≤ 12) ∧ (0 ≤ (σ12 55 13).toInt ∧ (σ12 55 13).toInt ≤ 999) ∧ (∀ k : Nat, k < 8 → 0 ≤ (σ12 62 k).toInt ∧ (σ12 62 k).toInt ≤ 3) ∧ (∀ k : Nat, k < 8 → 0 ≤ (σ12 67 k).toInt ∧ (σ12 67 k).toInt ≤ 3) := id p23
         have z30 : (σ12 55 10).toInt = (σ 55 10).toInt := (congrArg Int32.toInt (show σ12 55 10 = (σ 55 10) from (f20 10 (of_decide_eq_true rfl))))
         have z31 : (σ12 55 12).toInt = (σ 55 12).toInt := (congrArg Int32.toInt (show σ12 55 12 = (σ 55 12) from (f20 12 (of_decide_eq_true rfl))))
         have z32 : (σ12 55 13).toInt = (σ 55 13).toInt := (congrArg Int32.toInt (show σ12 55 13 = (σ 55 13) from (f20 13 (of_decide_eq_true rfl))))
         refine lv_iload hx hb dX12_orders_38 (lv_at hl 0 rfl) ?_
         refine lv_iconst (v := 4) hx hb dX12_orders_40 (of_decide_eq_true rfl) ?_
         refine lv_icmp_ge (tgt := 127) hx hb dX12_orders_41 (of_decide_eq_true rfl) (fun c33 => ?_) (fun c33 => ?_)
         · have kc33 := jle c33 jz_4 rfl
           have p34 : jTR σ12 := jTR.fr (f19 64 (of_decide_eq_true rfl)) (f19 65 (of_decide_eq_true rfl)) hs_jTR
           exact by exact hret σ12 τ _ _ _ _ ⟨rfl, (fun i hi => (f19 i hi)), (fun i hi => (f20 i hi)), p23, p24, p21, p34, p22, (by omega), (by omega), trivial⟩ hP hS dX12_orders_127
         · have kc33 := jnle c33 jz_4 rfl
           refine lv_iconst (v := 0) hx hb dX12_orders_44 (of_decide_eq_true rfl) ?_
           refine lv_istore (lv' := [(5, .int 0), (4, .int x10), (0, .ref (ad 55)), (1, .int 1), (2, .int a2), (3, .int a3)]) hx hb dX12_orders_45 hl (of_decide_eq_true rfl) rfl (fun ls hl => ?_)
           have lp35 : ∀ (n36 : Nat) (x37 : Int32) (H : Heap) (locs : List Loc) (ls : Array Slot), ((σ12 55 10).toInt - x37.toInt : Int) < n36 → 0 ≤ x37.toInt → x37.toInt ≤ 5 → x37.toInt ≤ (σ12 55 10).toInt → jH D cI cL ad σ12 τ H → va_S (jA ad) s.heap H locs → lv_has ls 6 [(5, .int x37), (4, .int x10), (0, .ref (ad 55)), (1, .int 1), (2, .int a2), (3, .int a3)] → W p l e ({ frames := 108, cells := 0, slots := 0, locals := 5181 }) s m args below meth c H locs 0 0 Q (F0 m 47 ls []) := by
             intro n36
             induction n36 with
             | zero => intro x37 H locs ls h39 h40 h41 h42; exact absurd h39 (by omega)
             | succ n36 ihlp35 =>
               intro x37 H locs ls h39 h40 h41 h42 hP hS hl
               exact by
                refine lv_iload hx hb dX12_orders_47 (lv_at hl 0 rfl) ?_
                refine lv_aload_n hx hb dX12_orders_49 rfl (lv_at hl 2 rfl) ?_
                refine va_get (D := D) hx hb hts inlX12 hown hK hP 55 (jc_55 cI cL ad σ12 τ) rfl 10 (of_decide_eq_true rfl) (hts _ kw_8_15) (fun _ h9 => h9) rfl dX12_orders_50 ?_
                have m44 : σ12 55 10 = (σ 55 10) := (f20 10 (of_decide_eq_true rfl))
                refine jtopr m44 ?_
                refine lv_icmp_ge (tgt := 84) hx hb dX12_orders_53 (of_decide_eq_true rfl) (fun c45 => ?_) (fun c45 => ?_)
                · have kc45 := jle c45 rfl rfl
                  refine lv_iload hx hb dX12_orders_84 (lv_at hl 0 rfl) ?_
                  refine lv_aload_n hx hb dX12_orders_86 rfl (lv_at hl 2 rfl) ?_
                  refine va_get (D := D) hx hb hts inlX12 hown hK hP 55 (jc_55 cI cL ad σ12 τ) rfl 10 (of_decide_eq_true rfl) (hts _ kw_8_15) (fun _ h9 => h9) rfl dX12_orders_87 ?_
                  refine jtopr m44 ?_
                  exact by
                   refine lv_icmp_ge (tgt := 121) hx hb dX12_orders_90 (of_decide_eq_true rfl) (fun c46 => ?_) (fun c => absurd (jnle c rfl rfl) (by omega))
                   have kc46 := jle c46 rfl rfl
                   obtain ⟨x47, ex47⟩ : ∃ y : Int32, y = x10 + 1 := ⟨_, rfl⟩
                   have tx47 : x47.toInt = x10.toInt + 1 := (jadd ex47 rfl jz_1 (by omega) (by omega)).trans (by omega)
                   refine lv_iinc (v := x47) (lv' := [(4, .int x47), (5, .int x37), (0, .ref (ad 55)), (1, .int 1), (2, .int a2), (3, .int a3)]) hx hb dX12_orders_121 hl (k := 1) rfl (by rw [ex47]; rfl) (of_decide_eq_true rfl) rfl (fun ls hl => ?_)
                   refine lv_goto (tgt := 38) hx hb dX12_orders_124 (of_decide_eq_true rfl) ?_
                   exact by exact ihlp8 x47 σ12 _ _ ls (by have h90 := tx47; omega) (by have h90 := tx47; omega) (by have h90 := tx47; omega) (by have h90 := tx47; omega) (by have h90 := tx47; omega) (fun i hi => (f19 i hi)) (fun i hi => (f20 i hi))  p21 p22 p23 p24 hP hS (lv_sub hl [0, 2, 3, 4, 5] rfl)
                · have kc45 := jnle c45 rfl rfl
                  refine lv_iload_n hx hb dX12_orders_56 rfl (lv_at hl 4 rfl) ?_
                  exact by
                   refine lv_iload hx hb dX12_orders_57 (lv_at hl 0 rfl) ?_
                   refine lv_ishr hx hb dX12_orders_59 ?_
                   refine lv_topi (fun x48 ex48 => ?_)
                   have gx48 := jrg (rfl : x48.toInt = x48.toInt)
                   refine lv_iconst (v := 1) hx hb dX12_orders_60 (of_decide_eq_true rfl) ?_
                   refine lv_iand hx hb dX12_orders_61 ?_
                   refine lv_topi (fun x49 ex49 => ?_)
                   have gx49 := jrg (rfl : x49.toInt = x49.toInt)
                   have g50 : 0 ≤ x49.toInt ∧ x49.toInt ≤ 1 := jmask ex49 1 (of_decide_eq_true rfl) (of_decide_eq_true rfl)
                   refine lv_iconst (v := 1) hx hb dX12_orders_62 (of_decide_eq_true rfl) ?_
                   refine lv_icmp_eq (tgt := 78) hx hb dX12_orders_63 (of_decide_eq_true rfl) (fun c51 => ?_) (fun c51 => ?_)
                   · have kc51 := jeq c51 rfl jz_1
                     obtain ⟨x52, ex52⟩ : ∃ y : Int32, y = x37 + 1 := ⟨_, rfl⟩
                     exact by
                      have tx52 : x52.toInt = x37.toInt + 1 := (jadd ex52 rfl jz_1 (by omega) (by omega)).trans (by omega)
                      refine lv_iinc (v := x52) (lv' := [(5, .int x52), (4, .int x10), (0, .ref (ad 55)), (1, .int 1), (2, .int a2), (3, .int a3)]) hx hb dX12_orders_78 hl (k := 0) rfl (by rw [ex52]; rfl) (of_decide_eq_true rfl) rfl (fun ls hl => ?_)
                      refine lv_goto (tgt := 47) hx hb dX12_orders_81 (of_decide_eq_true rfl) ?_
                      exact by exact ihlp35 x52 _ _ ls (by have h90 := tx52; omega) (by have h90 := tx52; omega) (by have h90 := tx52; omega) (by have h90 := tx52; omega)    hP hS (lv_sub hl [0, 1, 2, 3, 4, 5] rfl)
                   · have kc51 := jne c51 rfl jz_1
                     refine lv_aload_n hx hb dX12_orders_66 rfl (lv_at hl 2 rfl) ?_
                     refine va_get (D := D) hx hb hts inlX12 hown hK hP 55 (jc_55 cI cL ad σ12 τ) rfl 44 (of_decide_eq_true rfl) (hts _ kw_8_4) (fun _ h9 => h9) rfl dX12_orders_67 ?_
                     refine lv_iload hx hb dX12_orders_70 (lv_at hl 0 rfl) ?_
                     refine jald hx hb hK hP (jc_79 cI cL ad σ12 τ) (jin rfl (by omega) (by omega)) dX12_orders_72 ?_
                     exact by
                      have w53 : ∀ k : Nat, k < 5 → 0 ≤ (σ12 79 k).toInt ∧ (σ12 79 k).toInt ≤ 3 := (jrr_fr (f19 79 (of_decide_eq_true rfl)) w6)
                      have g54 := w53 _ (jnat (x := x37) rfl (n := 5) (by omega) (of_decide_eq_true rfl))
                      refine lv_topi (fun x55 ex55 => ?_)
                      rw [← ex55] at g54
                      refine lv_iload hx hb dX12_orders_73 (lv_at hl 1 rfl) ?_
                      refine lv_icmp_eq (tgt := 84) hx hb dX12_orders_75 (of_decide_eq_true rfl) (fun c56 => ?_) (fun c56 => ?_)
                      · have kc56 := jeq c56 rfl rfl
                        refine lv_iload hx hb dX12_orders_84 (lv_at hl 0 rfl) ?_
                        refine lv_aload_n hx hb dX12_orders_86 rfl (lv_at hl 2 rfl) ?_
                        exact by
                         refine va_get (D := D) hx hb hts inlX12 hown hK hP 55 (jc_55 cI cL ad σ12 τ) rfl 10 (of_decide_eq_true rfl) (hts _ kw_8_15) (fun _ h9 => h9) rfl dX12_orders_87 ?_
                         refine jtopr m44 ?_
                         refine lv_icmp_ge (tgt := 121) hx hb dX12_orders_90 (of_decide_eq_true rfl) (fun c => absurd (jle c rfl rfl) (by omega)) (fun c57 => ?_)
                         have kc57 := jnle c57 rfl rfl
                         refine lv_aload_n hx hb dX12_orders_93 rfl (lv_at hl 2 rfl) ?_
                         refine va_get (D := D) hx hb hts inlX12 hown hK hP 55 (jc_55 cI cL ad σ12 τ) rfl 11 (of_decide_eq_true rfl) (hts _ kw_7_8) (fun _ h9 => h9) rfl dX12_orders_94 ?_
                         refine lv_iload_n hx hb dX12_orders_97 rfl (lv_at hl 3 rfl) ?_
                         refine lv_iload hx hb dX12_orders_98 (lv_at hl 1 rfl) ?_
                         refine jast hx hb hK hP hJ hA hS (jc_62 cI cL ad σ12 τ) (ja_62 cI cL ad σ12 τ _ _) (jin jz_1 (by omega) (by omega)) dX12_orders_100 (fun σ58 H locs eσ58 hP hS => ?_)
                         exact by
                          have eσ58 : σ58 = jup σ12 62 1 x10 := eσ58
                          refine lv_aload_n hx hb dX12_orders_101 rfl (lv_at hl 2 rfl) ?_
                          refine lv_iload_n hx hb dX12_orders_102 rfl (lv_at hl 3 rfl) ?_
                          refine lv_iconst (v := 1) hx hb dX12_orders_103 (of_decide_eq_true rfl) ?_
                          refine lv_iadd hx hb dX12_orders_104 ?_
                          refine jtopr (y := 2) (of_decide_eq_true rfl) ?_
                          refine lv_iload_n hx hb dX12_orders_105 rfl (lv_at hl 4 rfl) ?_
                          refine lv_iconst (v := 1) hx hb dX12_orders_106 (of_decide_eq_true rfl) ?_
                          refine lv_iload hx hb dX12_orders_107 (lv_at hl 0 rfl) ?_
                          refine lv_ishl hx hb dX12_orders_109 ?_
                          refine lv_topi (fun x59 ex59 => ?_)
                          have gx59 := jrg (rfl : x59.toInt = x59.toInt)
                          refine lv_ior hx hb dX12_orders_110 ?_
                          refine lv_topi (fun x60 ex60 => ?_)
                          have gx60 := jrg (rfl : x60.toInt = x60.toInt)
                          refine lv_bipush (v := 10) hx hb dX12_orders_111 (of_decide_eq_true rfl) ?_
                          refine lv_iload_n hx hb dX12_orders_113 rfl (lv_at hl 5 rfl) ?_
                          refine lv_imul hx hb dX12_orders_114 ?_
                          refine lv_topi (fun x61 ex61 => ?_)
                          have gx61 := jrg (rfl : x61.toInt = x61.toInt)
                          refine lv_iload hx hb dX12_orders_115 (lv_at hl 1 rfl) ?_
                          have g62 := jrg (rfl : x61.toInt = x61.toInt)
                          have g63 := jrg (rfl : x10.toInt = x10.toInt)
                          refine lv_iadd hx hb dX12_orders_117 ?_
                          refine lv_topi (fun x64 ex64 => ?_)
                          have gx64 := jrg (rfl : x64.toInt = x64.toInt)
                          have I65 : jI101 σ58 := jI101_fr ((congrFun (jnp 55 eσ58 (of_decide_eq_true rfl)) 4).trans (f20 4 (of_decide_eq_true rfl))) ((congrFun (jnp 55 eσ58 (of_decide_eq_true rfl)) 5).trans (f20 5 (of_decide_eq_true rfl))) ((jnp 56 eσ58 (of_decide_eq_true rfl)).trans (f19 56 (of_decide_eq_true rfl))) ((jnp 57 eσ58 (of_decide_eq_true rfl)).trans (f19 57 (of_decide_eq_true rfl))) ((jnp 58 eσ58 (of_decide_eq_true rfl)).trans (f19 58 (of_decide_eq_true rfl))) ((jnp 59 eσ58 (of_decide_eq_true rfl)).trans (f19 59 (of_decide_eq_true rfl))) hI101
                          have I66 : jI102 σ58 := jI102_fr ((congrFun (jnp 55 eσ58 (of_decide_eq_true rfl)) 6).trans (f20 6 (of_decide_eq_true rfl))) ((jnp 60 eσ58 (of_decide_eq_true rfl)).trans (f19 60 (of_decide_eq_true rfl))) ((jnp 61 eσ58 (of_decide_eq_true rfl)).trans (f19 61 (of_decide_eq_true rfl))) hI102
                          have I67 : jI103 σ58 := jI103_fr ((congrFun (jnp 55 eσ58 (of_decide_eq_true rfl)) 9).trans (f20 9 (of_decide_eq_true rfl))) hI103
                          have z68 : (σ58 55 10).toInt = (σ 55 10).toInt := (congrArg Int32.toInt (show σ58 55 10 = (σ 55 10) from ((congrFun (jnp 55 eσ58 (of_decide_eq_true rfl)) 10).trans m44)))
                          have z69 : (σ58 55 12).toInt = (σ 55 12).toInt := (congrArg Int32.toInt (show σ58 55 12 = (σ 55 12) from ((congrFun (jnp 55 eσ58 (of_decide_eq_true rfl)) 12).trans (f20 12 (of_decide_eq_true rfl)))))
                          have z70 : (σ58 55 13).toInt = (σ 55 13).toInt := (congrArg Int32.toInt (show σ58 55 13 = (σ 55 13) from ((congrFun (jnp 55 eσ58 (of_decide_eq_true rfl)) 13).trans (f20 13 (of_decide_eq_true rfl)))))
                          exact by
                           have w71 : ∀ k : Nat, k < 8 → 0 ≤ (σ58 62 k).toInt ∧ (σ58 62 k).toInt ≤ 3 := (by rw [eσ58]; exact jrr_up w28 (by omega) (by omega))
                           have w72 : ∀ k : Nat, k < 8 → 0 ≤ (σ58 67 k).toInt ∧ (σ58 67 k).toInt ≤ 3 := (jrr_fr (jnp 67 eσ58 (of_decide_eq_true rfl)) w29)
                           have I73 : jI104 σ58 := ⟨(by omega), (by omega), (by omega), w71, w72⟩
                           have I74 : jI105 σ58 := jI105_fr ((congrFun (jnp 55 eσ58 (of_decide_eq_true rfl)) 15).trans (f20 15 (of_decide_eq_true rfl))) ((jnp 65 eσ58 (of_decide_eq_true rfl)).trans (f19 65 (of_decide_eq_true rfl))) hI105
                           have I75 : jI106 σ58 := jI106_fr ((congrFun (jnp 55 eσ58 (of_decide_eq_true rfl)) 32).trans (f20 32 (of_decide_eq_true rfl))) ((jnp 70 eσ58 (of_decide_eq_true rfl)).trans (f19 70 (of_decide_eq_true rfl))) ((jnp 71 eσ58 (of_decide_eq_true rfl)).trans (f19 71 (of_decide_eq_true rfl))) ((jnp 72 eσ58 (of_decide_eq_true rfl)).trans (f19 72 (of_decide_eq_true rfl))) hI106
                           have I76 : jI119 σ58 := jI119_fr (jnp 68 eσ58 (of_decide_eq_true rfl)) p24
                           have I77 : jI111 σ58 := jI111_fr ((jnp 79 eσ58 (of_decide_eq_true rfl)).trans (f19 79 (of_decide_eq_true rfl))) hI111
                           have p78 : jKept σ58 := jKept.fr (jnp 75 eσ58 (of_decide_eq_true rfl)) (jnp 76 eσ58 (of_decide_eq_true rfl)) (jnp 77 eσ58 (of_decide_eq_true rfl)) p21
                           have p79 : jTR σ58 := jTR.fr ((jnp 64 eσ58 (of_decide_eq_true rfl)).trans (f19 64 (of_decide_eq_true rfl))) ((jnp 65 eσ58 (of_decide_eq_true rfl)).trans (f19 65 (of_decide_eq_true rfl))) hs_jTR
                           exact by
                            have p80 : jqSt σ58 := jqSt.fr (jnp 78 eσ58 (of_decide_eq_true rfl)) (congrFun (jnp 55 eσ58 (of_decide_eq_true rfl)) 42) p22
                            have z81 : (σ58 55 42).toInt = (σ12 55 42).toInt := (congrArg Int32.toInt (show σ58 55 42 = (σ12 55 42) from (congrFun (jnp 55 eσ58 (of_decide_eq_true rfl)) 42)))
                            refine jcallVv (As := [.int 2, .int x60, .int x64]) (rest := []) ⟨hx, hb, hml, hown, hts⟩ hK hP hA hS hZ (c_X12_orders_2 l D cI cL ad zz hJ σ58 τ x60 (x60.toInt) rfl x64 (x64.toInt) rfl I65 I66 I67 I73 I74 I75 I76 I77 p78 p79 p80 (by omega) (by omega) (by omega) (by omega)) cw_RX12_355 (jc_55 cI cL ad σ58 τ) rfl ⟨Nat.le_of_ble_eq_true rfl, Nat.le_of_ble_eq_true rfl⟩ rfl rfl rfl hl.1 rfl (Nat.le_of_ble_eq_true rfl) dX12_orders_118 ⟨Nat.zero_le _, Nat.zero_le _⟩ (fun σ82 τ82 H locs h82 hP hS => ?_)
                            obtain ⟨rfl, f84, f85, I86, I87, p88, p89, p90, h82⟩ := h82
                            obtain ⟨i92, i93, i94, w95, w96⟩ : (1 ≤ (σ82 55 10).toInt ∧ (σ82 55 10).toInt ≤ 8) ∧ (1 ≤ (σ82 55 12).toInt ∧ (σ82 55 12).toInt ≤ 12) ∧ (0 ≤ (σ82 55 13).toInt ∧ (σ82 55 13).toInt ≤ 999) ∧ (∀ k : Nat, k < 8 → 0 ≤ (σ82 62 k).toInt ∧ (σ82 62 k).toInt ≤ 3) ∧ (∀ k : Nat, k < 8 → 0 ≤ (σ82 67 k).toInt ∧ (σ82 67 k).toInt ≤ 3) := id I86
                            have z97 : (σ82 55 10).toInt = (σ 55 10).toInt := (congrArg Int32.toInt (show σ82 55 10 = (σ 55 10) from ((f85 10 (of_decide_eq_true rfl)).trans ((congrFun (jnp 55 eσ58 (of_decide_eq_true rfl)) 10).trans m44))))
                            have z98 : (σ82 55 12).toInt = (σ 55 12).toInt := (congrArg Int32.toInt (show σ82 55 12 = (σ 55 12) from ((f85 12 (of_decide_eq_true rfl)).trans ((congrFun (jnp 55 eσ58 (of_decide_eq_true rfl)) 12).trans (f20 12 (of_decide_eq_true rfl))))))
                            have z99 : (σ82 55 13).toInt = (σ 55 13).toInt := (congrArg Int32.toInt (show σ82 55 13 = (σ 55 13) from ((f85 13 (of_decide_eq_true rfl)).trans ((congrFun (jnp 55 eσ58 (of_decide_eq_true rfl)) 13).trans (f20 13 (of_decide_eq_true rfl))))))
                            obtain ⟨k100, k101, h82⟩ := h82
                            exact by
                             obtain ⟨x102, ex102⟩ : ∃ y : Int32, y = x10 + 1 := ⟨_, rfl⟩
                             have tx102 : x102.toInt = x10.toInt + 1 := (jadd ex102 rfl jz_1 (by omega) (by omega)).trans (by omega)
                             refine lv_iinc (v := x102) (lv' := [(4, .int x102), (5, .int x37), (0, .ref (ad 55)), (1, .int 1), (2, .int a2), (3, .int a3)]) hx hb dX12_orders_121 hl (k := 1) rfl (by rw [ex102]; rfl) (of_decide_eq_true rfl) rfl (fun ls hl => ?_)
                             refine lv_goto (tgt := 38) hx hb dX12_orders_124 (of_decide_eq_true rfl) ?_
                             exact by exact ihlp8 x102 σ82 _ _ ls (by have h90 := tx102; omega) (by have h90 := tx102; omega) (by have h90 := tx102; omega) (by have h90 := tx102; omega) (by have h90 := tx102; omega) (fun i hi => ((f84 i hi).trans ((jnp i eσ58 (imp_276 i hi)).trans (f19 i hi)))) (fun i hi => ((f85 i hi).trans ((congrFun (jnp 55 eσ58 (of_decide_eq_true rfl)) i).trans (f20 i hi))))  p88 p90 I86 I87 hP hS (lv_sub hl [0, 2, 3, 4, 5] rfl)
                      · have kc56 := jne c56 rfl rfl
                        obtain ⟨x103, ex103⟩ : ∃ y : Int32, y = x37 + 1 := ⟨_, rfl⟩
                        have tx103 : x103.toInt = x37.toInt + 1 := (jadd ex103 rfl jz_1 (by omega) (by omega)).trans (by omega)
                        refine lv_iinc (v := x103) (lv' := [(5, .int x103), (4, .int x10), (0, .ref (ad 55)), (1, .int 1), (2, .int a2), (3, .int a3)]) hx hb dX12_orders_78 hl (k := 0) rfl (by rw [ex103]; rfl) (of_decide_eq_true rfl) rfl (fun ls hl => ?_)
                        exact by
                         refine lv_goto (tgt := 47) hx hb dX12_orders_81 (of_decide_eq_true rfl) ?_
                         exact by exact ihlp35 x103 _ _ ls (by have h90 := tx103; omega) (by have h90 := tx103; omega) (by have h90 := tx103; omega) (by have h90 := tx103; omega)    hP hS (lv_sub hl [0, 1, 2, 3, 4, 5] rfl)
           exact by exact lp35 1000000 0 _ _ ls (by have h90 := jz_0; omega) (by have h90 := jz_0; omega) (by have h90 := jz_0; omega) (by have h90 := jz_0; omega)   hP hS hl
    exact by exact lp8 1000000 0 σ _ _ ls (by have h90 := jz_0; omega) (by have h90 := jz_0; omega) (by have h90 := jz_0; omega) (by have h90 := jz_0; omega) (by have h90 := jz_0; omega) (fun _ _ => rfl) (fun _ _ => rfl)  hs_jKept hs_jqSt hI104 hI119 hP hS hl
  · have kc7 := jeq c7 jz_1 rfl
    refine lv_aload_n hx hb dX12_orders_8 rfl (lv_at hl 0 rfl) ?_
    refine jcallV (As := []) (rest := []) ⟨hx, hb, hml, hown, hts⟩ hK hP hA hS hZ (c_X12_bestNow l D cI cL ad zz hJ σ τ hI101 hI102 hI103 hI104 hI105 hI106 hI119 hs_jKept hs_jTR hs_jqSt (by omega) (by omega)) cw_RX12_346 (jc_55 cI cL ad σ τ) rfl ⟨Nat.le_of_ble_eq_true rfl, Nat.le_of_ble_eq_true rfl⟩ rfl rfl rfl hl.1 rfl (Nat.le_of_ble_eq_true rfl) dX12_orders_9 ⟨Nat.zero_le _, Nat.zero_le _⟩ (fun r105 σ104 τ104 H locs h104 hP hS => ?_)
    obtain ⟨rfl, f106, f107, I108, p109, p110, p111, w112, h104⟩ := h104
    obtain ⟨k114, k115, h104⟩ := h104
    exact by
     have h116 := h104
     obtain ⟨q118, k117⟩ := h116
     refine lv_istore (lv' := [(4, .int r105), (0, .ref (ad 55)), (1, .int 1), (2, .int a2), (3, .int a3)]) hx hb dX12_orders_12 hl (of_decide_eq_true rfl) rfl (fun ls hl => ?_)
     refine lv_iload hx hb dX12_orders_14 (lv_at hl 0 rfl) ?_
     refine lv_aload_n hx hb dX12_orders_16 rfl (lv_at hl 1 rfl) ?_
     refine va_get (D := D) hx hb hts inlX12 hown hK hP 55 (jc_55 cI cL ad σ104 τ) rfl 46 (of_decide_eq_true rfl) (hts _ kw_40_17) (fun _ h9 => h9) rfl dX12_orders_17 ?_
     have m119 : σ104 55 46 = (σ 55 46) := (f107 46 (of_decide_eq_true rfl))
     refine jtopr m119 ?_
     refine lv_icmp_le (tgt := 34) hx hb dX12_orders_20 (of_decide_eq_true rfl) (fun c120 => ?_) (fun c120 => ?_)
     · have kc120 := jle c120 rfl rfl
       have I121 : jI104 σ104 := jI104_fr (f107 10 (of_decide_eq_true rfl)) (f107 12 (of_decide_eq_true rfl)) (f107 13 (of_decide_eq_true rfl)) (f106 62 (of_decide_eq_true rfl)) (f106 67 (of_decide_eq_true rfl)) hI104
       exact by exact hret σ104 τ _ _ _ _ ⟨rfl, (fun i hi => (f106 i (imp_271 i hi))), (fun i hi => (f107 i (imp_272 i hi))), I121, I108, p109, p110, p111, (by omega), (by omega), trivial⟩ hP hS dX12_orders_34
     · have kc120 := jnle c120 rfl rfl
       refine lv_aload_n hx hb dX12_orders_23 rfl (lv_at hl 1 rfl) ?_
       refine lv_iload hx hb dX12_orders_24 (lv_at hl 0 rfl) ?_
       refine jput (ty := .int) hx hb hts inlX12 tyX12 tyX12_ok nmX12 hown hK hP hJ hA hS (jc_55 cI cL ad σ104 τ) rfl (k := 46) (of_decide_eq_true rfl) (Nat.le_of_ble_eq_true rfl) (jp_55_46 cI cL ad σ104 τ r105) (hts _ kw_40_17) (fun _ h9 => h9) rfl (by decide +kernel) rfl rfl dX12_orders_26 (fun σ122 H locs eσ122 hP hS => ?_)
       refine lv_aload_n hx hb dX12_orders_29 rfl (lv_at hl 1 rfl) ?_
       refine lv_iload_n hx hb dX12_orders_30 rfl (lv_at hl 4 rfl) ?_
       refine jput (ty := .int) hx hb hts inlX12 tyX12 tyX12_ok nmX12 hown hK hP hJ hA hS (jc_55 cI cL ad σ122 τ) rfl (k := 45) (of_decide_eq_true rfl) (Nat.le_of_ble_eq_true rfl) (jp_55_45 cI cL ad σ122 τ a3) (hts _ kw_40_18) (fun _ h9 => h9) rfl (by decide +kernel) rfl rfl dX12_orders_31 (fun σ123 H locs eσ123 hP hS => ?_)
       have I124 : jI104 σ123 := jI104_fr ((jkp 10 eσ123 (of_decide_eq_true rfl)).trans ((jkp 10 eσ122 (of_decide_eq_true rfl)).trans (f107 10 (of_decide_eq_true rfl)))) ((jkp 12 eσ123 (of_decide_eq_true rfl)).trans ((jkp 12 eσ122 (of_decide_eq_true rfl)).trans (f107 12 (of_decide_eq_true rfl)))) ((jkp 13 eσ123 (of_decide_eq_true rfl)).trans ((jkp 13 eσ122 (of_decide_eq_true rfl)).trans (f107 13 (of_decide_eq_true rfl)))) ((jnp 62 eσ123 (of_decide_eq_true rfl)).trans ((jnp 62 eσ122 (of_decide_eq_true rfl)).trans (f106 62 (of_decide_eq_true rfl)))) ((jnp 67 eσ123 (of_decide_eq_true rfl)).trans ((jnp 67 eσ122 (of_decide_eq_true rfl)).trans (f106 67 (of_decide_eq_true rfl)))) hI104
       have I125 : jI119 σ123 := jI119_fr ((jnp 68 eσ123 (of_decide_eq_true rfl)).trans (jnp 68 eσ122 (of_decide_eq_true rfl))) I108
       have p126 : jKept σ123 := jKept.fr ((jnp 75 eσ123 (of_decide_eq_true rfl)).trans (jnp 75 eσ122 (of_decide_eq_true rfl))) ((jnp 76 eσ123 (of_decide_eq_true rfl)).trans (jnp 76 eσ122 (of_decide_eq_true rfl))) ((jnp 77 eσ123 (of_decide_eq_true rfl)).trans (jnp 77 eσ122 (of_decide_eq_true rfl))) p109
       have p127 : jTR σ123 := jTR.fr ((jnp 64 eσ123 (of_decide_eq_true rfl)).trans (jnp 64 eσ122 (of_decide_eq_true rfl))) ((jnp 65 eσ123 (of_decide_eq_true rfl)).trans (jnp 65 eσ122 (of_decide_eq_true rfl))) p110
       have p128 : jqSt σ123 := jqSt.fr ((jnp 78 eσ123 (of_decide_eq_true rfl)).trans (jnp 78 eσ122 (of_decide_eq_true rfl))) ((jkp 42 eσ123 (of_decide_eq_true rfl)).trans (jkp 42 eσ122 (of_decide_eq_true rfl))) p111
       have z129 : (σ123 55 42).toInt = (σ104 55 42).toInt := (congrArg Int32.toInt (show σ123 55 42 = (σ104 55 42) from ((jkp 42 eσ123 (of_decide_eq_true rfl)).trans (jkp 42 eσ122 (of_decide_eq_true rfl)))))
       exact by exact hret σ123 τ _ _ _ _ ⟨rfl, (fun i hi => ((jnp i eσ123 (imp_273 i hi)).trans ((jnp i eσ122 (imp_273 i hi)).trans (f106 i (imp_271 i hi))))), (fun i hi => ((jkp i eσ123 (imp_274 i hi)).trans ((jkp i eσ122 (imp_275 i hi)).trans (f107 i (imp_272 i hi))))), I124, I125, p126, p127, p128, (by omega), (by omega), trivial⟩ hP hS dX12_orders_34
set_option maxHeartbeats 4000000 in
set_option maxRecDepth 100000 in
theorem c_X12_orders_0 (l : Launch) (D : va_G) (cI cL : ClassId) (ad zz : Nat → Nat) (hJ : jD ad) (σ : Nat → Nat → Int32) (τ : Nat → Nat → Int64) (a2 : Int32) (A2 : Int) (t2 : a2.toInt = A2) (a3 : Int32) (A3 : Int) (t3 : a3.toInt = A3) (hI101 : jI101 σ) (hI102 : jI102 σ) (hI103 : jI103 σ) (hI104 : jI104 σ) (hI105 : jI105 σ) (hI106 : jI106 σ) (hI119 : jI119 σ) (hI111 : jI111 σ) (hs_jKept : jKept σ) (hs_jTR : jTR σ) (hs_jqSt : jqSt σ) (hp0 : (σ 55 10).toInt ≤ 5) (hp1 : 0 ≤ (σ 55 10).toInt) (hp2 : (σ 55 12).toInt ≤ 8) (hp3 : 0 ≤ (σ 55 42).toInt ∧ (σ 55 42).toInt ≤ 999997952) : jMv l yX12_orders cX12_orders 6 none ({ frames := 109, cells := 0, slots := 0, locals := 5206 }) D cI cL ad zz [.ref (ad 55), .int 0, .int a2, .int a3] σ τ (fun σ' τ' => τ = τ' ∧ (∀ i : Nat, (i < 55 ∨ 55 < i) ∧ (i < 62 ∨ 62 < i) ∧ (i < 66 ∨ 66 < i) ∧ (i < 68 ∨ 69 < i) ∧ (i < 74 ∨ 78 < i) → σ' i = σ i) ∧ (∀ k : Nat, (k < 18 ∨ 18 < k) ∧ (k < 19 ∨ 19 < k) ∧ (k < 20 ∨ 20 < k) ∧ (k < 21 ∨ 21 < k) ∧ (k < 22 ∨ 22 < k) ∧ (k < 25 ∨ 25 < k) ∧ (k < 26 ∨ 26 < k) ∧ (k < 27 ∨ 27 < k) ∧ (k < 37 ∨ 37 < k) ∧ (k < 42 ∨ 42 < k) ∧ (k < 45 ∨ 45 < k) ∧ (k < 46 ∨ 46 < k) → σ' 55 k = σ 55 k) ∧ (jI104 σ') ∧ (jI119 σ') ∧ (jKept σ') ∧ (jTR σ') ∧ (jqSt σ') ∧ ((σ 55 42).toInt ≤ (σ' 55 42).toInt) ∧ ((σ' 55 42).toInt ≤ (σ 55 42).toInt + 1024) ∧ True) := by
  refine jMv.of hJ (by decide +kernel) rfl (Nat.le_of_ble_eq_true rfl) ?_
  intro p e s m args below meth c Q ls hC hret hl hP
  obtain ⟨hx, hb, hr, hml, hown, hts, hK, -, hlocks, hZ⟩ := hC
  have hown : s.vm.findClass RX12 = some m.cls := hown
  have hS : va_S (jA ad) s.heap s.heap [] := va_S.rf
  have hA : ∀ q, jA ad q → jA ad q := fun _ h => h
  have hl : lv_has ls 6 [(0, .ref (ad 55)), (1, .int 0), (2, .int a2), (3, .int a3)] := hl
  have g2 := jrg t2
  have g3 := jrg t3
  obtain ⟨i1, i2, i3, w4, w5⟩ : (1 ≤ (σ 55 10).toInt ∧ (σ 55 10).toInt ≤ 8) ∧ (1 ≤ (σ 55 12).toInt ∧ (σ 55 12).toInt ≤ 12) ∧ (0 ≤ (σ 55 13).toInt ∧ (σ 55 13).toInt ≤ 999) ∧ (∀ k : Nat, k < 8 → 0 ≤ (σ 62 k).toInt ∧ (σ 62 k).toInt ≤ 3) ∧ (∀ k : Nat, k < 8 → 0 ≤ (σ 67 k).toInt ∧ (σ 67 k).toInt ≤ 3) := id hI104
  have w6 : ∀ k : Nat, k < 5 → 0 ≤ (σ 79 k).toInt ∧ (σ 79 k).toInt ≤ 3 := hI111
  refine lv_iload_n hx hb dX12_orders_0 rfl (lv_at hl 1 rfl) ?_
  refine lv_aload_n hx hb dX12_orders_1 rfl (lv_at hl 0 rfl) ?_
  refine va_get (D := D) hx hb hts inlX12 hown hK hP 55 (jc_55 cI cL ad σ τ) rfl 10 (of_decide_eq_true rfl) (hts _ kw_8_15) (fun _ h9 => h9) rfl dX12_orders_2 ?_
  exact by
   refine lv_icmp_ne (tgt := 35) hx hb dX12_orders_5 (of_decide_eq_true rfl) (fun c7 => ?_) (fun c => absurd (jeq c jz_0 rfl) (by omega))
   have kc7 := jne c7 jz_0 rfl
   refine lv_iconst (v := 0) hx hb dX12_orders_35 (of_decide_eq_true rfl) ?_
   refine lv_istore (lv' := [(4, .int 0), (0, .ref (ad 55)), (1, .int 0), (2, .int a2), (3, .int a3)]) hx hb dX12_orders_36 hl (of_decide_eq_true rfl) rfl (fun ls hl => ?_)
   have lp8 : ∀ (n9 : Nat) (x10 : Int32) (σ12 : Nat → Nat → Int32) (H : Heap) (locs : List Loc) (ls : Array Slot), (-x10.toInt + 4 : Int) < n9 → 0 ≤ x10.toInt → x10.toInt ≤ 4 → (σ 55 42).toInt ≤ (σ12 55 42).toInt → (σ12 55 42).toInt ≤ (σ 55 42).toInt + 256 * x10.toInt → (∀ i : Nat, (i < 55 ∨ 55 < i) ∧ (i < 62 ∨ 62 < i) ∧ (i < 66 ∨ 66 < i) ∧ (i < 68 ∨ 69 < i) ∧ (i < 74 ∨ 78 < i) → σ12 i = σ i) → (∀ k : Nat, (k < 18 ∨ 18 < k) ∧ (k < 19 ∨ 19 < k) ∧ (k < 20 ∨ 20 < k) ∧ (k < 21 ∨ 21 < k) ∧ (k < 22 ∨ 22 < k) ∧ (k < 25 ∨ 25 < k) ∧ (k < 26 ∨ 26 < k) ∧ (k < 27 ∨ 27 < k) ∧ (k < 37 ∨ 37 < k) ∧ (k < 42 ∨ 42 < k) ∧ (k < 45 ∨ 45 < k) ∧ (k < 46 ∨ 46 < k) → σ12 55 k = σ 55 k) → jKept σ12 → jqSt σ12 → jI104 σ12 → jI119 σ12 → jH D cI cL ad σ12 τ H → va_S (jA ad) s.heap H locs → lv_has ls 6 [(4, .int x10), (0, .ref (ad 55)), (1, .int 0), (2, .int a2), (3, .int a3)] → W p l e ({ frames := 109, cells := 0, slots := 0, locals := 5206 }) s m args below meth c H locs 0 0 Q (F0 m 38 ls []) := by
     intro n9
     induction n9 with
     | zero => intro x10 σ12 H locs ls h14 h15 h16 h17 h18; exact absurd h14 (by omega)
     | succ n9 ihlp8 =>
       intro x10 σ12 H locs ls h14 h15 h16 h17 h18 f19 f20 p21 p22 p23 p24 hP hS hl
       exact by
        obtain ⟨i25, i26, i27, w28, w29⟩ : (1 ≤ (σ12 55 10).toInt ∧ (σ12 55 10).toInt ≤ 8) ∧ (1 ≤ (σ12 55 12).toInt ∧ (σ12 55 12).toInt ≤ 12) ∧ (0 ≤ (σ12 55 13).toInt ∧ (σ12 55 13).toInt ≤ 999) ∧ (∀ k : Nat, k < 8 → 0 ≤ (σ12 62 k).toInt ∧ (σ12 62 k).toInt ≤ 3) ∧ (∀ k : Nat, k < 8 → 0 ≤ (σ12 67 k).toInt ∧ (σ12 67 k).toInt ≤ 3) := id p23
        have z30 : (σ12 55 10).toInt = (σ 55 10).toInt := (congrArg Int32.toInt (show σ12 55 10 = (σ 55 10) from (f20 10 (of_decide_eq_true rfl))))
        have z31 : (σ12 55 12).toInt = (σ 55 12).toInt := (congrArg Int32.toInt (show σ12 55 12 = (σ 55 12) from (f20 12 (of_decide_eq_true rfl))))
        have z32 : (σ12 55 13).toInt = (σ 55 13).toInt := (congrArg Int32.toInt (show σ12 55 13 = (σ 55 13) from (f20 13 (of_decide_eq_true rfl))))
        refine lv_iload hx hb dX12_orders_38 (lv_at hl 0 rfl) ?_
        refine lv_iconst (v := 4) hx hb dX12_orders_40 (of_decide_eq_true rfl) ?_
        refine lv_icmp_ge (tgt := 127) hx hb dX12_orders_41 (of_decide_eq_true rfl) (fun c33 => ?_) (fun c33 => ?_)
        · have kc33 := jle c33 jz_4 rfl
          have p34 : jTR σ12 := jTR.fr (f19 64 (of_decide_eq_true rfl)) (f19 65 (of_decide_eq_true rfl)) hs_jTR
          exact by exact hret σ12 τ _ _ _ _ ⟨rfl, (fun i hi => (f19 i hi)), (fun i hi => (f20 i hi)), p23, p24, p21, p34, p22, (by omega), (by omega), trivial⟩ hP hS dX12_orders_127
        · have kc33 := jnle c33 jz_4 rfl
          refine lv_iconst (v := 0) hx hb dX12_orders_44 (of_decide_eq_true rfl) ?_
          refine lv_istore (lv' := [(5, .int 0), (4, .int x10), (0, .ref (ad 55)), (1, .int 0), (2, .int a2), (3, .int a3)]) hx hb dX12_orders_45 hl (of_decide_eq_true rfl) rfl (fun ls hl => ?_)
          have lp35 : ∀ (n36 : Nat) (x37 : Int32) (H : Heap) (locs : List Loc) (ls : Array Slot), ((σ12 55 10).toInt - x37.toInt : Int) < n36 → 0 ≤ x37.toInt → x37.toInt ≤ 5 → x37.toInt ≤ (σ12 55 10).toInt → jH D cI cL ad σ12 τ H → va_S (jA ad) s.heap H locs → lv_has ls 6 [(5, .int x37), (4, .int x10), (0, .ref (ad 55)), (1, .int 0), (2, .int a2), (3, .int a3)] → W p l e ({ frames := 109, cells := 0, slots := 0, locals := 5206 }) s m args below meth c H locs 0 0 Q (F0 m 47 ls []) := by
            intro n36
            induction n36 with
            | zero => intro x37 H locs ls h39 h40 h41 h42; exact absurd h39 (by omega)
            | succ n36 ihlp35 =>
              intro x37 H locs ls h39 h40 h41 h42 hP hS hl
              exact by
               refine lv_iload hx hb dX12_orders_47 (lv_at hl 0 rfl) ?_
               refine lv_aload_n hx hb dX12_orders_49 rfl (lv_at hl 2 rfl) ?_
               refine va_get (D := D) hx hb hts inlX12 hown hK hP 55 (jc_55 cI cL ad σ12 τ) rfl 10 (of_decide_eq_true rfl) (hts _ kw_8_15) (fun _ h9 => h9) rfl dX12_orders_50 ?_
               have m44 : σ12 55 10 = (σ 55 10) := (f20 10 (of_decide_eq_true rfl))
               refine jtopr m44 ?_
               refine lv_icmp_ge (tgt := 84) hx hb dX12_orders_53 (of_decide_eq_true rfl) (fun c45 => ?_) (fun c45 => ?_)
               · have kc45 := jle c45 rfl rfl
                 refine lv_iload hx hb dX12_orders_84 (lv_at hl 0 rfl) ?_
                 refine lv_aload_n hx hb dX12_orders_86 rfl (lv_at hl 2 rfl) ?_
                 refine va_get (D := D) hx hb hts inlX12 hown hK hP 55 (jc_55 cI cL ad σ12 τ) rfl 10 (of_decide_eq_true rfl) (hts _ kw_8_15) (fun _ h9 => h9) rfl dX12_orders_87 ?_
                 refine jtopr m44 ?_
                 exact by
                  refine lv_icmp_ge (tgt := 121) hx hb dX12_orders_90 (of_decide_eq_true rfl) (fun c46 => ?_) (fun c => absurd (jnle c rfl rfl) (by omega))
                  have kc46 := jle c46 rfl rfl
                  obtain ⟨x47, ex47⟩ : ∃ y : Int32, y = x10 + 1 := ⟨_, rfl⟩
                  have tx47 : x47.toInt = x10.toInt + 1 := (jadd ex47 rfl jz_1 (by omega) (by omega)).trans (by omega)
                  refine lv_iinc (v := x47) (lv' := [(4, .int x47), (5, .int x37), (0, .ref (ad 55)), (1, .int 0), (2, .int a2), (3, .int a3)]) hx hb dX12_orders_121 hl (k := 1) rfl (by rw [ex47]; rfl) (of_decide_eq_true rfl) rfl (fun ls hl => ?_)
                  refine lv_goto (tgt := 38) hx hb dX12_orders_124 (of_decide_eq_true rfl) ?_
                  exact by exact ihlp8 x47 σ12 _ _ ls (by have h90 := tx47; omega) (by have h90 := tx47; omega) (by have h90 := tx47; omega) (by have h90 := tx47; omega) (by have h90 := tx47; omega) (fun i hi => (f19 i hi)) (fun i hi => (f20 i hi))  p21 p22 p23 p24 hP hS (lv_sub hl [0, 2, 3, 4, 5] rfl)
               · have kc45 := jnle c45 rfl rfl
                 refine lv_iload_n hx hb dX12_orders_56 rfl (lv_at hl 4 rfl) ?_
                 exact by
                  refine lv_iload hx hb dX12_orders_57 (lv_at hl 0 rfl) ?_
                  refine lv_ishr hx hb dX12_orders_59 ?_
                  refine lv_topi (fun x48 ex48 => ?_)
                  have gx48 := jrg (rfl : x48.toInt = x48.toInt)
                  refine lv_iconst (v := 1) hx hb dX12_orders_60 (of_decide_eq_true rfl) ?_
                  refine lv_iand hx hb dX12_orders_61 ?_
                  refine lv_topi (fun x49 ex49 => ?_)
                  have gx49 := jrg (rfl : x49.toInt = x49.toInt)
                  have g50 : 0 ≤ x49.toInt ∧ x49.toInt ≤ 1 := jmask ex49 1 (of_decide_eq_true rfl) (of_decide_eq_true rfl)
                  refine lv_iconst (v := 1) hx hb dX12_orders_62 (of_decide_eq_true rfl) ?_
                  refine lv_icmp_eq (tgt := 78) hx hb dX12_orders_63 (of_decide_eq_true rfl) (fun c51 => ?_) (fun c51 => ?_)
                  · have kc51 := jeq c51 rfl jz_1
                    obtain ⟨x52, ex52⟩ : ∃ y : Int32, y = x37 + 1 := ⟨_, rfl⟩
                    exact by
                     have tx52 : x52.toInt = x37.toInt + 1 := (jadd ex52 rfl jz_1 (by omega) (by omega)).trans (by omega)
                     refine lv_iinc (v := x52) (lv' := [(5, .int x52), (4, .int x10), (0, .ref (ad 55)), (1, .int 0), (2, .int a2), (3, .int a3)]) hx hb dX12_orders_78 hl (k := 0) rfl (by rw [ex52]; rfl) (of_decide_eq_true rfl) rfl (fun ls hl => ?_)
                     refine lv_goto (tgt := 47) hx hb dX12_orders_81 (of_decide_eq_true rfl) ?_
                     exact by exact ihlp35 x52 _ _ ls (by have h90 := tx52; omega) (by have h90 := tx52; omega) (by have h90 := tx52; omega) (by have h90 := tx52; omega)    hP hS (lv_sub hl [0, 1, 2, 3, 4, 5] rfl)
                  · have kc51 := jne c51 rfl jz_1
                    refine lv_aload_n hx hb dX12_orders_66 rfl (lv_at hl 2 rfl) ?_
                    refine va_get (D := D) hx hb hts inlX12 hown hK hP 55 (jc_55 cI cL ad σ12 τ) rfl 44 (of_decide_eq_true rfl) (hts _ kw_8_4) (fun _ h9 => h9) rfl dX12_orders_67 ?_
                    refine lv_iload hx hb dX12_orders_70 (lv_at hl 0 rfl) ?_
                    refine jald hx hb hK hP (jc_79 cI cL ad σ12 τ) (jin rfl (by omega) (by omega)) dX12_orders_72 ?_
                    exact by
                     have w53 : ∀ k : Nat, k < 5 → 0 ≤ (σ12 79 k).toInt ∧ (σ12 79 k).toInt ≤ 3 := (jrr_fr (f19 79 (of_decide_eq_true rfl)) w6)
                     have g54 := w53 _ (jnat (x := x37) rfl (n := 5) (by omega) (of_decide_eq_true rfl))
                     refine lv_topi (fun x55 ex55 => ?_)
                     rw [← ex55] at g54
                     refine lv_iload hx hb dX12_orders_73 (lv_at hl 1 rfl) ?_
                     refine lv_icmp_eq (tgt := 84) hx hb dX12_orders_75 (of_decide_eq_true rfl) (fun c56 => ?_) (fun c56 => ?_)
                     · have kc56 := jeq c56 rfl rfl
                       refine lv_iload hx hb dX12_orders_84 (lv_at hl 0 rfl) ?_
                       refine lv_aload_n hx hb dX12_orders_86 rfl (lv_at hl 2 rfl) ?_
                       exact by
                        refine va_get (D := D) hx hb hts inlX12 hown hK hP 55 (jc_55 cI cL ad σ12 τ) rfl 10 (of_decide_eq_true rfl) (hts _ kw_8_15) (fun _ h9 => h9) rfl dX12_orders_87 ?_
                        refine jtopr m44 ?_
                        refine lv_icmp_ge (tgt := 121) hx hb dX12_orders_90 (of_decide_eq_true rfl) (fun c => absurd (jle c rfl rfl) (by omega)) (fun c57 => ?_)
                        have kc57 := jnle c57 rfl rfl
                        refine lv_aload_n hx hb dX12_orders_93 rfl (lv_at hl 2 rfl) ?_
                        refine va_get (D := D) hx hb hts inlX12 hown hK hP 55 (jc_55 cI cL ad σ12 τ) rfl 11 (of_decide_eq_true rfl) (hts _ kw_7_8) (fun _ h9 => h9) rfl dX12_orders_94 ?_
                        refine lv_iload_n hx hb dX12_orders_97 rfl (lv_at hl 3 rfl) ?_
                        refine lv_iload hx hb dX12_orders_98 (lv_at hl 1 rfl) ?_
                        refine jast hx hb hK hP hJ hA hS (jc_62 cI cL ad σ12 τ) (ja_62 cI cL ad σ12 τ _ _) (jin jz_0 (by omega) (by omega)) dX12_orders_100 (fun σ58 H locs eσ58 hP hS => ?_)
                        exact by
                         have eσ58 : σ58 = jup σ12 62 0 x10 := eσ58
                         refine lv_aload_n hx hb dX12_orders_101 rfl (lv_at hl 2 rfl) ?_
                         refine lv_iload_n hx hb dX12_orders_102 rfl (lv_at hl 3 rfl) ?_
                         refine lv_iconst (v := 1) hx hb dX12_orders_103 (of_decide_eq_true rfl) ?_
                         refine lv_iadd hx hb dX12_orders_104 ?_
                         refine jtopr (y := 1) (of_decide_eq_true rfl) ?_
                         refine lv_iload_n hx hb dX12_orders_105 rfl (lv_at hl 4 rfl) ?_
                         refine lv_iconst (v := 1) hx hb dX12_orders_106 (of_decide_eq_true rfl) ?_
                         refine lv_iload hx hb dX12_orders_107 (lv_at hl 0 rfl) ?_
                         refine lv_ishl hx hb dX12_orders_109 ?_
                         refine lv_topi (fun x59 ex59 => ?_)
                         have gx59 := jrg (rfl : x59.toInt = x59.toInt)
                         refine lv_ior hx hb dX12_orders_110 ?_
                         refine lv_topi (fun x60 ex60 => ?_)
                         have gx60 := jrg (rfl : x60.toInt = x60.toInt)
                         refine lv_bipush (v := 10) hx hb dX12_orders_111 (of_decide_eq_true rfl) ?_
                         refine lv_iload_n hx hb dX12_orders_113 rfl (lv_at hl 5 rfl) ?_
                         refine lv_imul hx hb dX12_orders_114 ?_
                         refine lv_topi (fun x61 ex61 => ?_)
                         have gx61 := jrg (rfl : x61.toInt = x61.toInt)
                         refine lv_iload hx hb dX12_orders_115 (lv_at hl 1 rfl) ?_
                         have g62 := jrg (rfl : x61.toInt = x61.toInt)
                         have g63 := jrg (rfl : x10.toInt = x10.toInt)
                         refine lv_iadd hx hb dX12_orders_117 ?_
                         refine lv_topi (fun x64 ex64 => ?_)
                         have gx64 := jrg (rfl : x64.toInt = x64.toInt)
                         have I65 : jI101 σ58 := jI101_fr ((congrFun (jnp 55 eσ58 (of_decide_eq_true rfl)) 4).trans (f20 4 (of_decide_eq_true rfl))) ((congrFun (jnp 55 eσ58 (of_decide_eq_true rfl)) 5).trans (f20 5 (of_decide_eq_true rfl))) ((jnp 56 eσ58 (of_decide_eq_true rfl)).trans (f19 56 (of_decide_eq_true rfl))) ((jnp 57 eσ58 (of_decide_eq_true rfl)).trans (f19 57 (of_decide_eq_true rfl))) ((jnp 58 eσ58 (of_decide_eq_true rfl)).trans (f19 58 (of_decide_eq_true rfl))) ((jnp 59 eσ58 (of_decide_eq_true rfl)).trans (f19 59 (of_decide_eq_true rfl))) hI101
                         have I66 : jI102 σ58 := jI102_fr ((congrFun (jnp 55 eσ58 (of_decide_eq_true rfl)) 6).trans (f20 6 (of_decide_eq_true rfl))) ((jnp 60 eσ58 (of_decide_eq_true rfl)).trans (f19 60 (of_decide_eq_true rfl))) ((jnp 61 eσ58 (of_decide_eq_true rfl)).trans (f19 61 (of_decide_eq_true rfl))) hI102
                         have I67 : jI103 σ58 := jI103_fr ((congrFun (jnp 55 eσ58 (of_decide_eq_true rfl)) 9).trans (f20 9 (of_decide_eq_true rfl))) hI103
                         have z68 : (σ58 55 10).toInt = (σ 55 10).toInt := (congrArg Int32.toInt (show σ58 55 10 = (σ 55 10) from ((congrFun (jnp 55 eσ58 (of_decide_eq_true rfl)) 10).trans m44)))
                         have z69 : (σ58 55 12).toInt = (σ 55 12).toInt := (congrArg Int32.toInt (show σ58 55 12 = (σ 55 12) from ((congrFun (jnp 55 eσ58 (of_decide_eq_true rfl)) 12).trans (f20 12 (of_decide_eq_true rfl)))))
                         have z70 : (σ58 55 13).toInt = (σ 55 13).toInt := (congrArg Int32.toInt (show σ58 55 13 = (σ 55 13) from ((congrFun (jnp 55 eσ58 (of_decide_eq_true rfl)) 13).trans (f20 13 (of_decide_eq_true rfl)))))
                         exact by
                          have w71 : ∀ k : Nat, k < 8 → 0 ≤ (σ58 62 k).toInt ∧ (σ58 62 k).toInt ≤ 3 := (by rw [eσ58]; exact jrr_up w28 (by omega) (by omega))
                          have w72 : ∀ k : Nat, k < 8 → 0 ≤ (σ58 67 k).toInt ∧ (σ58 67 k).toInt ≤ 3 := (jrr_fr (jnp 67 eσ58 (of_decide_eq_true rfl)) w29)
                          have I73 : jI104 σ58 := ⟨(by omega), (by omega), (by omega), w71, w72⟩
                          have I74 : jI105 σ58 := jI105_fr ((congrFun (jnp 55 eσ58 (of_decide_eq_true rfl)) 15).trans (f20 15 (of_decide_eq_true rfl))) ((jnp 65 eσ58 (of_decide_eq_true rfl)).trans (f19 65 (of_decide_eq_true rfl))) hI105
                          have I75 : jI106 σ58 := jI106_fr ((congrFun (jnp 55 eσ58 (of_decide_eq_true rfl)) 32).trans (f20 32 (of_decide_eq_true rfl))) ((jnp 70 eσ58 (of_decide_eq_true rfl)).trans (f19 70 (of_decide_eq_true rfl))) ((jnp 71 eσ58 (of_decide_eq_true rfl)).trans (f19 71 (of_decide_eq_true rfl))) ((jnp 72 eσ58 (of_decide_eq_true rfl)).trans (f19 72 (of_decide_eq_true rfl))) hI106
                          have I76 : jI119 σ58 := jI119_fr (jnp 68 eσ58 (of_decide_eq_true rfl)) p24
                          have I77 : jI111 σ58 := jI111_fr ((jnp 79 eσ58 (of_decide_eq_true rfl)).trans (f19 79 (of_decide_eq_true rfl))) hI111
                          have p78 : jKept σ58 := jKept.fr (jnp 75 eσ58 (of_decide_eq_true rfl)) (jnp 76 eσ58 (of_decide_eq_true rfl)) (jnp 77 eσ58 (of_decide_eq_true rfl)) p21
                          have p79 : jTR σ58 := jTR.fr ((jnp 64 eσ58 (of_decide_eq_true rfl)).trans (f19 64 (of_decide_eq_true rfl))) ((jnp 65 eσ58 (of_decide_eq_true rfl)).trans (f19 65 (of_decide_eq_true rfl))) hs_jTR
                          exact by
                           have p80 : jqSt σ58 := jqSt.fr (jnp 78 eσ58 (of_decide_eq_true rfl)) (congrFun (jnp 55 eσ58 (of_decide_eq_true rfl)) 42) p22
                           have z81 : (σ58 55 42).toInt = (σ12 55 42).toInt := (congrArg Int32.toInt (show σ58 55 42 = (σ12 55 42) from (congrFun (jnp 55 eσ58 (of_decide_eq_true rfl)) 42)))
                           refine jcallVv (As := [.int 1, .int x60, .int x64]) (rest := []) ⟨hx, hb, hml, hown, hts⟩ hK hP hA hS hZ (c_X12_orders_1 l D cI cL ad zz hJ σ58 τ x60 (x60.toInt) rfl x64 (x64.toInt) rfl I65 I66 I67 I73 I74 I75 I76 I77 p78 p79 p80 (by omega) (by omega) (by omega) (by omega)) cw_RX12_355 (jc_55 cI cL ad σ58 τ) rfl ⟨Nat.le_of_ble_eq_true rfl, Nat.le_of_ble_eq_true rfl⟩ rfl rfl rfl hl.1 rfl (Nat.le_of_ble_eq_true rfl) dX12_orders_118 ⟨Nat.zero_le _, Nat.zero_le _⟩ (fun σ82 τ82 H locs h82 hP hS => ?_)
                           obtain ⟨rfl, f84, f85, I86, I87, p88, p89, p90, h82⟩ := h82
                           obtain ⟨i92, i93, i94, w95, w96⟩ : (1 ≤ (σ82 55 10).toInt ∧ (σ82 55 10).toInt ≤ 8) ∧ (1 ≤ (σ82 55 12).toInt ∧ (σ82 55 12).toInt ≤ 12) ∧ (0 ≤ (σ82 55 13).toInt ∧ (σ82 55 13).toInt ≤ 999) ∧ (∀ k : Nat, k < 8 → 0 ≤ (σ82 62 k).toInt ∧ (σ82 62 k).toInt ≤ 3) ∧ (∀ k : Nat, k < 8 → 0 ≤ (σ82 67 k).toInt ∧ (σ82 67 k).toInt ≤ 3) := id I86
                           have z97 : (σ82 55 10).toInt = (σ 55 10).toInt := (congrArg Int32.toInt (show σ82 55 10 = (σ 55 10) from ((f85 10 (of_decide_eq_true rfl)).trans ((congrFun (jnp 55 eσ58 (of_decide_eq_true rfl)) 10).trans m44))))
                           have z98 : (σ82 55 12).toInt = (σ 55 12).toInt := (congrArg Int32.toInt (show σ82 55 12 = (σ 55 12) from ((f85 12 (of_decide_eq_true rfl)).trans ((congrFun (jnp 55 eσ58 (of_decide_eq_true rfl)) 12).trans (f20 12 (of_decide_eq_true rfl))))))
                           have z99 : (σ82 55 13).toInt = (σ 55 13).toInt := (congrArg Int32.toInt (show σ82 55 13 = (σ 55 13) from ((f85 13 (of_decide_eq_true rfl)).trans ((congrFun (jnp 55 eσ58 (of_decide_eq_true rfl)) 13).trans (f20 13 (of_decide_eq_true rfl))))))
                           obtain ⟨k100, k101, h82⟩ := h82
                           exact by
                            obtain ⟨x102, ex102⟩ : ∃ y : Int32, y = x10 + 1 := ⟨_, rfl⟩
                            have tx102 : x102.toInt = x10.toInt + 1 := (jadd ex102 rfl jz_1 (by omega) (by omega)).trans (by omega)
                            refine lv_iinc (v := x102) (lv' := [(4, .int x102), (5, .int x37), (0, .ref (ad 55)), (1, .int 0), (2, .int a2), (3, .int a3)]) hx hb dX12_orders_121 hl (k := 1) rfl (by rw [ex102]; rfl) (of_decide_eq_true rfl) rfl (fun ls hl => ?_)
                            refine lv_goto (tgt := 38) hx hb dX12_orders_124 (of_decide_eq_true rfl) ?_
                            exact by exact ihlp8 x102 σ82 _ _ ls (by have h90 := tx102; omega) (by have h90 := tx102; omega) (by have h90 := tx102; omega) (by have h90 := tx102; omega) (by have h90 := tx102; omega) (fun i hi => ((f84 i hi).trans ((jnp i eσ58 (imp_276 i hi)).trans (f19 i hi)))) (fun i hi => ((f85 i hi).trans ((congrFun (jnp 55 eσ58 (of_decide_eq_true rfl)) i).trans (f20 i hi))))  p88 p90 I86 I87 hP hS (lv_sub hl [0, 2, 3, 4, 5] rfl)
                     · have kc56 := jne c56 rfl rfl
                       obtain ⟨x103, ex103⟩ : ∃ y : Int32, y = x37 + 1 := ⟨_, rfl⟩
                       have tx103 : x103.toInt = x37.toInt + 1 := (jadd ex103 rfl jz_1 (by omega) (by omega)).trans (by omega)
                       refine lv_iinc (v := x103) (lv' := [(5, .int x103), (4, .int x10), (0, .ref (ad 55)), (1, .int 0), (2, .int a2), (3, .int a3)]) hx hb dX12_orders_78 hl (k := 0) rfl (by rw [ex103]; rfl) (of_decide_eq_true rfl) rfl (fun ls hl => ?_)
                       exact by
                        refine lv_goto (tgt := 47) hx hb dX12_orders_81 (of_decide_eq_true rfl) ?_
                        exact by exact ihlp35 x103 _ _ ls (by have h90 := tx103; omega) (by have h90 := tx103; omega) (by have h90 := tx103; omega) (by have h90 := tx103; omega)    hP hS (lv_sub hl [0, 1, 2, 3, 4, 5] rfl)
          exact by exact lp35 1000000 0 _ _ ls (by have h90 := jz_0; omega) (by have h90 := jz_0; omega) (by have h90 := jz_0; omega) (by have h90 := jz_0; omega)   hP hS hl
   exact by exact lp8 1000000 0 σ _ _ ls (by have h90 := jz_0; omega) (by have h90 := jz_0; omega) (by have h90 := jz_0; omega) (by have h90 := jz_0; omega) (by have h90 := jz_0; omega) (fun _ _ => rfl) (fun _ _ => rfl)  hs_jKept hs_jqSt hI104 hI119 hP hS hl

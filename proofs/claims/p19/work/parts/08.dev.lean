set_option maxHeartbeats 4000000 in
set_option maxRecDepth 100000 in
theorem dv_c_X11_edge (l : Launch) (D : va_G) (cI cL : ClassId) (ad zz : Nat → Nat) (hJ : jD ad) (σ : Nat → Nat → Int32) (τ : Nat → Nat → Int64) (a1 : Int32) (A1 : Int) (t1 : a1.toInt = A1) (a2 : Int32) (A2 : Int) (t2 : a2.toInt = A2) (a3 : Int32) (A3 : Int) (t3 : a3.toInt = A3) (hI2 : jI2 σ) : jM l yX11_edge cX11_edge 5 (some .int) ({ frames := 3, cells := 0, slots := 0, locals := 65 }) D cI cL ad zz [.ref (ad 0), .int a1, .int a2, .int a3] σ τ (fun r σ' τ' => τ = τ' ∧ (∀ i : Nat, (i < 2 ∨ 3 < i) ∧ (i < 6 ∨ 8 < i) → σ' i = σ i) ∧ (∀ k : Nat, (k < 2 ∨ 2 < k) ∧ (k < 3 ∨ 3 < k) → σ' 2 k = σ 2 k) ∧ (jI2 σ') ∧ ((r = (-2000000000) ∧ ((σ' 2 2).toInt = (σ 2 2).toInt) ∧ ((σ' 2 3).toInt = (σ 2 3).toInt) ∧ (¬ jEok (A1) (A2) (A3) ((σ 2 0).toInt)) ∧ (σ' 3 = σ 3 ∧ σ' 6 = σ 6 ∧ σ' 7 = σ 7 ∧ σ' 8 = σ 8)) ∨ (True ∧ (jEok (A1) (A2) (A3) ((σ 2 0).toInt) ∧ ∃ q : Int, jEpl (A1) (A2) q ∧ jChg (q) a3 r (σ 3) (σ' 3) (σ 6) (σ' 6) (σ 7) (σ' 7) (σ 8) (σ' 8) (σ 2 2).toInt (σ' 2 2).toInt ((σ 2 2).toInt + (σ 2 3).toInt) ((σ' 2 2).toInt + (σ' 2 3).toInt))))) := by
  refine jM.of hJ (by decide +kernel) (nt := .int) rfl (Nat.le_of_ble_eq_true rfl) ?_
  intro p e s m args below meth c Q ls hC hret hl hP
  obtain ⟨hx, hb, hr, hml, hown, hts, hK, -, hlocks, hZ⟩ := hC
  have hown : s.vm.findClass RX11 = some m.cls := hown
  have hS : va_S (jA ad) s.heap s.heap [] := va_S.rf
  have hA : ∀ q, jA ad q → jA ad q := fun _ h => h
  have hl : lv_has ls 5 [(0, .ref (ad 0)), (1, .int a1), (2, .int a2), (3, .int a3)] := hl
  have g1 := jrg t1
  have g2 := jrg t2
  have g3 := jrg t3
  obtain ⟨i1, i2, i3, i4, i5, w6, w7⟩ : (0 ≤ (σ 2 0).toInt ∧ (σ 2 0).toInt ≤ 4) ∧ (0 ≤ (σ 2 1).toInt ∧ (σ 2 1).toInt ≤ 3) ∧ (0 ≤ (σ 2 2).toInt) ∧ (0 ≤ (σ 2 3).toInt) ∧ ((σ 2 2).toInt + (σ 2 3).toInt ≤ 40) ∧ (∀ k : Nat, k < 40 → 0 ≤ (σ 6 k).toInt ∧ (σ 6 k).toInt ≤ 67) ∧ (∀ k : Nat, k < 4 → 0 ≤ (σ 5 k).toInt ∧ (σ 5 k).toInt ≤ 20) := id hI2
  refine lv_aload_n hx hb dX11_edge_0 rfl (lv_at hl 0 rfl) ?_
  refine lv_iload_n hx hb dX11_edge_1 rfl (lv_at hl 1 rfl) ?_
  refine lv_iload_n hx hb dX11_edge_2 rfl (lv_at hl 2 rfl) ?_
  refine jcallV (As := [.int a1, .int a2]) (rest := []) ⟨hx, hb, hml, hown, hts⟩ hK hP hA hS hZ (c_X11_edgePlace l D cI cL ad zz hJ σ τ a1 (A1) t1 a2 (A2) t2 hI2) cw_RX11_106 (jc_0 cI cL ad σ τ) rfl ⟨Nat.le_of_ble_eq_true rfl, Nat.le_of_ble_eq_true rfl⟩ rfl rfl rfl hl.1 rfl (Nat.le_of_ble_eq_true rfl) dX11_edge_3 ⟨Nat.zero_le _, Nat.zero_le _⟩ (fun r9 σ8 τ8 H locs h8 hP hS => ?_)
  obtain ⟨⟨rfl, rfl⟩, h8⟩ := h8
  rcases h8 with h10 | h11 | h12 | h13
  · obtain ⟨q19, k14, k15, k16, k17, k18⟩ := h10
    refine lv_istore (lv' := [(4, .int r9), (0, .ref (ad 0)), (1, .int a1), (2, .int a2), (3, .int a3)]) hx hb dX11_edge_6 hl (of_decide_eq_true rfl) rfl (fun ls hl => ?_)
    refine lv_iload hx hb dX11_edge_8 (lv_at hl 0 rfl) ?_
    refine lv_if_lt (tgt := 30) hx hb dX11_edge_10 (of_decide_eq_true rfl) (fun c20 => ?_) (fun c20 => ?_)
    · have kc20 := jlt c20 rfl jz_0
      refine lv_ldc (v := (-2000000000)) hx hb hown (hts _ kw_9_21) dX11_edge_30 ?_
      exact by exact hret (-2000000000) σ τ _ _ _ _ rfl ⟨rfl, (fun _ _ => rfl), (fun _ _ => rfl), hI2, Or.inl ⟨rfl, (by have h9 := jz_m2000000000; omega), (by have h9 := jz_m2000000000; omega), (fun h => by unfold jEok at h; omega), ⟨rfl, rfl, rfl, rfl⟩⟩⟩ hP hS dX11_edge_32
    · have kc20 := jnlt c20 rfl jz_0
      refine lv_iload_n hx hb dX11_edge_13 rfl (lv_at hl 4 rfl) ?_
      refine lv_iload hx hb dX11_edge_14 (lv_at hl 0 rfl) ?_
      refine jcallS (As := [.int r9]) (rest := [.int a3]) ⟨hx, hb, hml, hown, hts⟩ hK hP hA hS hZ (c_X4_lowest l D cI cL ad zz hJ σ τ r9 (r9.toInt) rfl) cw_RX11_110 ⟨Nat.le_of_ble_eq_true rfl, Nat.le_of_ble_eq_true rfl⟩ rfl rfl rfl hl.1 rfl (Nat.le_of_ble_eq_true rfl) dX11_edge_16 ⟨Nat.zero_le _, Nat.zero_le _⟩ (fun r22 σ21 τ21 H locs h21 hP hS => ?_)
      obtain ⟨⟨rfl, rfl⟩, h21⟩ := h21
      rcases h21 with h23 | h24 | h25
      · obtain ⟨q27, k26⟩ := h23
        have q27 := q27.symm
        subst q27
        refine lv_iload hx hb dX11_edge_19 (lv_at hl 0 rfl) ?_
        refine jcallS (As := [.int r9]) (rest := [.int 0, .int a3]) ⟨hx, hb, hml, hown, hts⟩ hK hP hA hS hZ (c_X4_highest l D cI cL ad zz hJ σ τ r9 (r9.toInt) rfl) cw_RX11_114 ⟨Nat.le_of_ble_eq_true rfl, Nat.le_of_ble_eq_true rfl⟩ rfl rfl rfl hl.1 rfl (Nat.le_of_ble_eq_true rfl) dX11_edge_21 ⟨Nat.zero_le _, Nat.zero_le _⟩ (fun r29 σ28 τ28 H locs h28 hP hS => ?_)
        obtain ⟨⟨rfl, rfl⟩, h28⟩ := h28
        rcases h28 with h30 | h31 | h32 | h33
        · obtain ⟨q35, k34⟩ := h30
          have q35 := q35.symm
          subst q35
          refine jcallS (As := [.int a3, .int 0, .int 500]) (rest := []) ⟨hx, hb, hml, hown, hts⟩ hK hP hA hS hZ (c_X11_outside l D cI cL ad zz hJ σ τ a3 (A3) t3 0 (0) jz_0 500 (500) jz_500) cw_RX11_94 ⟨Nat.le_of_ble_eq_true rfl, Nat.le_of_ble_eq_true rfl⟩ rfl rfl rfl hl.1 rfl (Nat.le_of_ble_eq_true rfl) dX11_edge_24 ⟨Nat.zero_le _, Nat.zero_le _⟩ (fun r37 σ36 τ36 H locs h36 hP hS => ?_)
          obtain ⟨⟨rfl, rfl⟩, h36⟩ := h36
          rcases h36 with h38 | h39
          · obtain ⟨q41, k40⟩ := h38
            have q41 := q41.symm
            subst q41
            refine lv_if_eq (tgt := 33) hx hb dX11_edge_27 (of_decide_eq_true rfl) (fun c => absurd c (of_decide_eq_true rfl)) (fun _ => ?_)
            refine lv_ldc (v := (-2000000000)) hx hb hown (hts _ kw_9_21) dX11_edge_30 ?_
            exact by exact hret (-2000000000) σ τ _ _ _ _ rfl ⟨rfl, (fun _ _ => rfl), (fun _ _ => rfl), hI2, Or.inl ⟨rfl, (by have h9 := jz_m2000000000; omega), (by have h9 := jz_m2000000000; omega), (fun h => by unfold jEok at h; omega), ⟨rfl, rfl, rfl, rfl⟩⟩⟩ hP hS dX11_edge_32
          · obtain ⟨q43, k42⟩ := h39
            have q43 := q43.symm
            subst q43
            refine lv_if_eq (tgt := 33) hx hb dX11_edge_27 (of_decide_eq_true rfl) (fun _ => ?_) (fun c => absurd (of_decide_eq_true rfl) c)
            refine lv_aload_n hx hb dX11_edge_33 rfl (lv_at hl 1 rfl) ?_
            refine va_get (D := D) hx hb hts inlX11 hown hK hP 0 (jc_0 cI cL ad σ τ) rfl 0 (of_decide_eq_true rfl) (hts _ kw_1_16) (fun _ h9 => h9) rfl dX11_edge_34 ?_
            refine lv_iload hx hb dX11_edge_37 (lv_at hl 0 rfl) ?_
            refine lv_iload_n hx hb dX11_edge_39 rfl (lv_at hl 4 rfl) ?_
            exact by
             refine jcallV (As := [.int r9, .int a3]) (rest := []) ⟨hx, hb, hml, hown, hts⟩ hK hP hA hS hZ (c_X4_change_2 l D cI cL ad zz hJ σ τ r9 (r9.toInt) rfl a3 (A3) t3 hI2 (by omega)) cw_RX11_118 (jc_2 cI cL ad σ τ) rfl ⟨Nat.le_of_ble_eq_true rfl, Nat.le_of_ble_eq_true rfl⟩ rfl rfl rfl hl.1 rfl (Nat.le_of_ble_eq_true rfl) dX11_edge_40 ⟨Nat.zero_le _, Nat.zero_le _⟩ (fun r45 σ44 τ44 H locs h44 hP hS => ?_)
             obtain ⟨rfl, f46, f47, I48, w49, h44⟩ := h44
             obtain ⟨i51, i52, i53, i54, i55, w56, w57⟩ : (0 ≤ (σ44 2 0).toInt ∧ (σ44 2 0).toInt ≤ 4) ∧ (0 ≤ (σ44 2 1).toInt ∧ (σ44 2 1).toInt ≤ 3) ∧ (0 ≤ (σ44 2 2).toInt) ∧ (0 ≤ (σ44 2 3).toInt) ∧ ((σ44 2 2).toInt + (σ44 2 3).toInt ≤ 40) ∧ (∀ k : Nat, k < 40 → 0 ≤ (σ44 6 k).toInt ∧ (σ44 6 k).toInt ≤ 67) ∧ (∀ k : Nat, k < 4 → 0 ≤ (σ44 5 k).toInt ∧ (σ44 5 k).toInt ≤ 20) := id I48
             have z58 : (σ44 2 0).toInt = (σ 2 0).toInt := (congrArg Int32.toInt (show σ44 2 0 = (σ 2 0) from (f47 0 (of_decide_eq_true rfl))))
             have z59 : (σ44 2 1).toInt = (σ 2 1).toInt := (congrArg Int32.toInt (show σ44 2 1 = (σ 2 1) from (f47 1 (of_decide_eq_true rfl))))
             exact by exact hret r45 σ44 τ _ _ _ _ rfl ⟨rfl, (fun i hi => (f46 i hi)), (fun i hi => (f47 i hi)), I48, Or.inr (⟨trivial, ⟨(by unfold jEok; omega), r9.toInt, (by unfold jEpl; omega), w49⟩⟩)⟩ hP hS dX11_edge_43
        · obtain ⟨q61, k60⟩ := h31
          exact absurd (by omega : False) id
        · obtain ⟨q63, k62⟩ := h32
          exact absurd (by omega : False) id
        · obtain ⟨q65, k64⟩ := h33
          exact absurd (by omega : False) id
      · obtain ⟨q67, k66⟩ := h24
        exact absurd (by omega : False) id
      · obtain ⟨q69, k68⟩ := h25
        exact absurd (by omega : False) id
  · obtain ⟨q75, k70, k71, k72, k73, k74⟩ := h11
    refine lv_istore (lv' := [(4, .int r9), (0, .ref (ad 0)), (1, .int a1), (2, .int a2), (3, .int a3)]) hx hb dX11_edge_6 hl (of_decide_eq_true rfl) rfl (fun ls hl => ?_)
    refine lv_iload hx hb dX11_edge_8 (lv_at hl 0 rfl) ?_
    refine lv_if_lt (tgt := 30) hx hb dX11_edge_10 (of_decide_eq_true rfl) (fun c76 => ?_) (fun c76 => ?_)
    · have kc76 := jlt c76 rfl jz_0
      refine lv_ldc (v := (-2000000000)) hx hb hown (hts _ kw_9_21) dX11_edge_30 ?_
      exact by exact hret (-2000000000) σ τ _ _ _ _ rfl ⟨rfl, (fun _ _ => rfl), (fun _ _ => rfl), hI2, Or.inl ⟨rfl, (by have h9 := jz_m2000000000; omega), (by have h9 := jz_m2000000000; omega), (fun h => by unfold jEok at h; omega), ⟨rfl, rfl, rfl, rfl⟩⟩⟩ hP hS dX11_edge_32
    · have kc76 := jnlt c76 rfl jz_0
      refine lv_iload_n hx hb dX11_edge_13 rfl (lv_at hl 4 rfl) ?_
      refine lv_iload hx hb dX11_edge_14 (lv_at hl 0 rfl) ?_
      refine jcallS (As := [.int r9]) (rest := [.int a3]) ⟨hx, hb, hml, hown, hts⟩ hK hP hA hS hZ (c_X4_lowest l D cI cL ad zz hJ σ τ r9 (r9.toInt) rfl) cw_RX11_110 ⟨Nat.le_of_ble_eq_true rfl, Nat.le_of_ble_eq_true rfl⟩ rfl rfl rfl hl.1 rfl (Nat.le_of_ble_eq_true rfl) dX11_edge_16 ⟨Nat.zero_le _, Nat.zero_le _⟩ (fun r78 σ77 τ77 H locs h77 hP hS => ?_)
      obtain ⟨⟨rfl, rfl⟩, h77⟩ := h77
      rcases h77 with h79 | h80 | h81
      · obtain ⟨q83, k82⟩ := h79
        have q83 := q83.symm
        subst q83
        refine lv_iload hx hb dX11_edge_19 (lv_at hl 0 rfl) ?_
        refine jcallS (As := [.int r9]) (rest := [.int 0, .int a3]) ⟨hx, hb, hml, hown, hts⟩ hK hP hA hS hZ (c_X4_highest l D cI cL ad zz hJ σ τ r9 (r9.toInt) rfl) cw_RX11_114 ⟨Nat.le_of_ble_eq_true rfl, Nat.le_of_ble_eq_true rfl⟩ rfl rfl rfl hl.1 rfl (Nat.le_of_ble_eq_true rfl) dX11_edge_21 ⟨Nat.zero_le _, Nat.zero_le _⟩ (fun r85 σ84 τ84 H locs h84 hP hS => ?_)
        obtain ⟨⟨rfl, rfl⟩, h84⟩ := h84
        rcases h84 with h86 | h87 | h88 | h89
        · obtain ⟨q91, k90⟩ := h86
          have q91 := q91.symm
          subst q91
          refine jcallS (As := [.int a3, .int 0, .int 500]) (rest := []) ⟨hx, hb, hml, hown, hts⟩ hK hP hA hS hZ (c_X11_outside l D cI cL ad zz hJ σ τ a3 (A3) t3 0 (0) jz_0 500 (500) jz_500) cw_RX11_94 ⟨Nat.le_of_ble_eq_true rfl, Nat.le_of_ble_eq_true rfl⟩ rfl rfl rfl hl.1 rfl (Nat.le_of_ble_eq_true rfl) dX11_edge_24 ⟨Nat.zero_le _, Nat.zero_le _⟩ (fun r93 σ92 τ92 H locs h92 hP hS => ?_)
          obtain ⟨⟨rfl, rfl⟩, h92⟩ := h92
          rcases h92 with h94 | h95
          · obtain ⟨q97, k96⟩ := h94
            have q97 := q97.symm
            subst q97
            refine lv_if_eq (tgt := 33) hx hb dX11_edge_27 (of_decide_eq_true rfl) (fun c => absurd c (of_decide_eq_true rfl)) (fun _ => ?_)
            refine lv_ldc (v := (-2000000000)) hx hb hown (hts _ kw_9_21) dX11_edge_30 ?_
            exact by exact hret (-2000000000) σ τ _ _ _ _ rfl ⟨rfl, (fun _ _ => rfl), (fun _ _ => rfl), hI2, Or.inl ⟨rfl, (by have h9 := jz_m2000000000; omega), (by have h9 := jz_m2000000000; omega), (fun h => by unfold jEok at h; omega), ⟨rfl, rfl, rfl, rfl⟩⟩⟩ hP hS dX11_edge_32
          · obtain ⟨q99, k98⟩ := h95
            have q99 := q99.symm
            subst q99
            refine lv_if_eq (tgt := 33) hx hb dX11_edge_27 (of_decide_eq_true rfl) (fun _ => ?_) (fun c => absurd (of_decide_eq_true rfl) c)
            refine lv_aload_n hx hb dX11_edge_33 rfl (lv_at hl 1 rfl) ?_
            refine va_get (D := D) hx hb hts inlX11 hown hK hP 0 (jc_0 cI cL ad σ τ) rfl 0 (of_decide_eq_true rfl) (hts _ kw_1_16) (fun _ h9 => h9) rfl dX11_edge_34 ?_
            refine lv_iload hx hb dX11_edge_37 (lv_at hl 0 rfl) ?_
            refine lv_iload_n hx hb dX11_edge_39 rfl (lv_at hl 4 rfl) ?_
            exact by
             refine jcallV (As := [.int r9, .int a3]) (rest := []) ⟨hx, hb, hml, hown, hts⟩ hK hP hA hS hZ (c_X4_change_2 l D cI cL ad zz hJ σ τ r9 (r9.toInt) rfl a3 (A3) t3 hI2 (by omega)) cw_RX11_118 (jc_2 cI cL ad σ τ) rfl ⟨Nat.le_of_ble_eq_true rfl, Nat.le_of_ble_eq_true rfl⟩ rfl rfl rfl hl.1 rfl (Nat.le_of_ble_eq_true rfl) dX11_edge_40 ⟨Nat.zero_le _, Nat.zero_le _⟩ (fun r101 σ100 τ100 H locs h100 hP hS => ?_)
             obtain ⟨rfl, f102, f103, I104, w105, h100⟩ := h100
             obtain ⟨i107, i108, i109, i110, i111, w112, w113⟩ : (0 ≤ (σ100 2 0).toInt ∧ (σ100 2 0).toInt ≤ 4) ∧ (0 ≤ (σ100 2 1).toInt ∧ (σ100 2 1).toInt ≤ 3) ∧ (0 ≤ (σ100 2 2).toInt) ∧ (0 ≤ (σ100 2 3).toInt) ∧ ((σ100 2 2).toInt + (σ100 2 3).toInt ≤ 40) ∧ (∀ k : Nat, k < 40 → 0 ≤ (σ100 6 k).toInt ∧ (σ100 6 k).toInt ≤ 67) ∧ (∀ k : Nat, k < 4 → 0 ≤ (σ100 5 k).toInt ∧ (σ100 5 k).toInt ≤ 20) := id I104
             have z114 : (σ100 2 0).toInt = (σ 2 0).toInt := (congrArg Int32.toInt (show σ100 2 0 = (σ 2 0) from (f103 0 (of_decide_eq_true rfl))))
             have z115 : (σ100 2 1).toInt = (σ 2 1).toInt := (congrArg Int32.toInt (show σ100 2 1 = (σ 2 1) from (f103 1 (of_decide_eq_true rfl))))
             exact by exact hret r101 σ100 τ _ _ _ _ rfl ⟨rfl, (fun i hi => (f102 i hi)), (fun i hi => (f103 i hi)), I104, Or.inr (⟨trivial, ⟨(by unfold jEok; omega), r9.toInt, (by unfold jEpl; omega), w105⟩⟩)⟩ hP hS dX11_edge_43
        · obtain ⟨q117, k116⟩ := h87
          exact absurd (by omega : False) id
        · obtain ⟨q119, k118⟩ := h88
          exact absurd (by omega : False) id
        · obtain ⟨q121, k120⟩ := h89
          exact absurd (by omega : False) id
      · obtain ⟨q123, k122⟩ := h80
        exact absurd (by omega : False) id
      · obtain ⟨q125, k124⟩ := h81
        have q125 := q125.symm
        subst q125
        refine lv_iload hx hb dX11_edge_19 (lv_at hl 0 rfl) ?_
        refine jcallS (As := [.int r9]) (rest := [.int (-9), .int a3]) ⟨hx, hb, hml, hown, hts⟩ hK hP hA hS hZ (c_X4_highest l D cI cL ad zz hJ σ τ r9 (r9.toInt) rfl) cw_RX11_114 ⟨Nat.le_of_ble_eq_true rfl, Nat.le_of_ble_eq_true rfl⟩ rfl rfl rfl hl.1 rfl (Nat.le_of_ble_eq_true rfl) dX11_edge_21 ⟨Nat.zero_le _, Nat.zero_le _⟩ (fun r127 σ126 τ126 H locs h126 hP hS => ?_)
        obtain ⟨⟨rfl, rfl⟩, h126⟩ := h126
        rcases h126 with h128 | h129 | h130 | h131
        · obtain ⟨q133, k132⟩ := h128
          exact absurd (by omega : False) id
        · obtain ⟨q135, k134⟩ := h129
          have q135 := q135.symm
          subst q135
          refine jcallS (As := [.int a3, .int (-9), .int 9]) (rest := []) ⟨hx, hb, hml, hown, hts⟩ hK hP hA hS hZ (c_X11_outside l D cI cL ad zz hJ σ τ a3 (A3) t3 (-9) ((-9)) jz_m9 9 (9) jz_9) cw_RX11_94 ⟨Nat.le_of_ble_eq_true rfl, Nat.le_of_ble_eq_true rfl⟩ rfl rfl rfl hl.1 rfl (Nat.le_of_ble_eq_true rfl) dX11_edge_24 ⟨Nat.zero_le _, Nat.zero_le _⟩ (fun r137 σ136 τ136 H locs h136 hP hS => ?_)
          obtain ⟨⟨rfl, rfl⟩, h136⟩ := h136
          rcases h136 with h138 | h139
          · obtain ⟨q141, k140⟩ := h138
            have q141 := q141.symm
            subst q141
            refine lv_if_eq (tgt := 33) hx hb dX11_edge_27 (of_decide_eq_true rfl) (fun c => absurd c (of_decide_eq_true rfl)) (fun _ => ?_)
            refine lv_ldc (v := (-2000000000)) hx hb hown (hts _ kw_9_21) dX11_edge_30 ?_
            exact by exact hret (-2000000000) σ τ _ _ _ _ rfl ⟨rfl, (fun _ _ => rfl), (fun _ _ => rfl), hI2, Or.inl ⟨rfl, (by have h9 := jz_m2000000000; omega), (by have h9 := jz_m2000000000; omega), (fun h => by unfold jEok at h; omega), ⟨rfl, rfl, rfl, rfl⟩⟩⟩ hP hS dX11_edge_32
          · obtain ⟨q143, k142⟩ := h139
            have q143 := q143.symm
            subst q143
            refine lv_if_eq (tgt := 33) hx hb dX11_edge_27 (of_decide_eq_true rfl) (fun _ => ?_) (fun c => absurd (of_decide_eq_true rfl) c)
            refine lv_aload_n hx hb dX11_edge_33 rfl (lv_at hl 1 rfl) ?_
            refine va_get (D := D) hx hb hts inlX11 hown hK hP 0 (jc_0 cI cL ad σ τ) rfl 0 (of_decide_eq_true rfl) (hts _ kw_1_16) (fun _ h9 => h9) rfl dX11_edge_34 ?_
            refine lv_iload hx hb dX11_edge_37 (lv_at hl 0 rfl) ?_
            refine lv_iload_n hx hb dX11_edge_39 rfl (lv_at hl 4 rfl) ?_
            exact by
             refine jcallV (As := [.int r9, .int a3]) (rest := []) ⟨hx, hb, hml, hown, hts⟩ hK hP hA hS hZ (c_X4_change_2 l D cI cL ad zz hJ σ τ r9 (r9.toInt) rfl a3 (A3) t3 hI2 (by omega)) cw_RX11_118 (jc_2 cI cL ad σ τ) rfl ⟨Nat.le_of_ble_eq_true rfl, Nat.le_of_ble_eq_true rfl⟩ rfl rfl rfl hl.1 rfl (Nat.le_of_ble_eq_true rfl) dX11_edge_40 ⟨Nat.zero_le _, Nat.zero_le _⟩ (fun r145 σ144 τ144 H locs h144 hP hS => ?_)
             obtain ⟨rfl, f146, f147, I148, w149, h144⟩ := h144
             obtain ⟨i151, i152, i153, i154, i155, w156, w157⟩ : (0 ≤ (σ144 2 0).toInt ∧ (σ144 2 0).toInt ≤ 4) ∧ (0 ≤ (σ144 2 1).toInt ∧ (σ144 2 1).toInt ≤ 3) ∧ (0 ≤ (σ144 2 2).toInt) ∧ (0 ≤ (σ144 2 3).toInt) ∧ ((σ144 2 2).toInt + (σ144 2 3).toInt ≤ 40) ∧ (∀ k : Nat, k < 40 → 0 ≤ (σ144 6 k).toInt ∧ (σ144 6 k).toInt ≤ 67) ∧ (∀ k : Nat, k < 4 → 0 ≤ (σ144 5 k).toInt ∧ (σ144 5 k).toInt ≤ 20) := id I148
             have z158 : (σ144 2 0).toInt = (σ 2 0).toInt := (congrArg Int32.toInt (show σ144 2 0 = (σ 2 0) from (f147 0 (of_decide_eq_true rfl))))
             have z159 : (σ144 2 1).toInt = (σ 2 1).toInt := (congrArg Int32.toInt (show σ144 2 1 = (σ 2 1) from (f147 1 (of_decide_eq_true rfl))))
             exact by exact hret r145 σ144 τ _ _ _ _ rfl ⟨rfl, (fun i hi => (f146 i hi)), (fun i hi => (f147 i hi)), I148, Or.inr (⟨trivial, ⟨(by unfold jEok; omega), r9.toInt, (by unfold jEpl; omega), w149⟩⟩)⟩ hP hS dX11_edge_43
        · obtain ⟨q161, k160⟩ := h130
          exact absurd (by omega : False) id
        · obtain ⟨q163, k162⟩ := h131
          exact absurd (by omega : False) id
  · obtain ⟨q168, k164, k165, k166, k167⟩ := h12
    refine lv_istore (lv' := [(4, .int r9), (0, .ref (ad 0)), (1, .int a1), (2, .int a2), (3, .int a3)]) hx hb dX11_edge_6 hl (of_decide_eq_true rfl) rfl (fun ls hl => ?_)
    refine lv_iload hx hb dX11_edge_8 (lv_at hl 0 rfl) ?_
    refine lv_if_lt (tgt := 30) hx hb dX11_edge_10 (of_decide_eq_true rfl) (fun c169 => ?_) (fun c169 => ?_)
    · have kc169 := jlt c169 rfl jz_0
      refine lv_ldc (v := (-2000000000)) hx hb hown (hts _ kw_9_21) dX11_edge_30 ?_
      exact by exact hret (-2000000000) σ τ _ _ _ _ rfl ⟨rfl, (fun _ _ => rfl), (fun _ _ => rfl), hI2, Or.inl ⟨rfl, (by have h9 := jz_m2000000000; omega), (by have h9 := jz_m2000000000; omega), (fun h => by unfold jEok at h; omega), ⟨rfl, rfl, rfl, rfl⟩⟩⟩ hP hS dX11_edge_32
    · have kc169 := jnlt c169 rfl jz_0
      refine lv_iload_n hx hb dX11_edge_13 rfl (lv_at hl 4 rfl) ?_
      refine lv_iload hx hb dX11_edge_14 (lv_at hl 0 rfl) ?_
      refine jcallS (As := [.int r9]) (rest := [.int a3]) ⟨hx, hb, hml, hown, hts⟩ hK hP hA hS hZ (c_X4_lowest l D cI cL ad zz hJ σ τ r9 (r9.toInt) rfl) cw_RX11_110 ⟨Nat.le_of_ble_eq_true rfl, Nat.le_of_ble_eq_true rfl⟩ rfl rfl rfl hl.1 rfl (Nat.le_of_ble_eq_true rfl) dX11_edge_16 ⟨Nat.zero_le _, Nat.zero_le _⟩ (fun r171 σ170 τ170 H locs h170 hP hS => ?_)
      obtain ⟨⟨rfl, rfl⟩, h170⟩ := h170
      rcases h170 with h172 | h173 | h174
      · obtain ⟨q176, k175⟩ := h172
        have q176 := q176.symm
        subst q176
        refine lv_iload hx hb dX11_edge_19 (lv_at hl 0 rfl) ?_
        refine jcallS (As := [.int r9]) (rest := [.int 0, .int a3]) ⟨hx, hb, hml, hown, hts⟩ hK hP hA hS hZ (c_X4_highest l D cI cL ad zz hJ σ τ r9 (r9.toInt) rfl) cw_RX11_114 ⟨Nat.le_of_ble_eq_true rfl, Nat.le_of_ble_eq_true rfl⟩ rfl rfl rfl hl.1 rfl (Nat.le_of_ble_eq_true rfl) dX11_edge_21 ⟨Nat.zero_le _, Nat.zero_le _⟩ (fun r178 σ177 τ177 H locs h177 hP hS => ?_)
        obtain ⟨⟨rfl, rfl⟩, h177⟩ := h177
        rcases h177 with h179 | h180 | h181 | h182
        · obtain ⟨q184, k183⟩ := h179
          have q184 := q184.symm
          subst q184
          refine jcallS (As := [.int a3, .int 0, .int 500]) (rest := []) ⟨hx, hb, hml, hown, hts⟩ hK hP hA hS hZ (c_X11_outside l D cI cL ad zz hJ σ τ a3 (A3) t3 0 (0) jz_0 500 (500) jz_500) cw_RX11_94 ⟨Nat.le_of_ble_eq_true rfl, Nat.le_of_ble_eq_true rfl⟩ rfl rfl rfl hl.1 rfl (Nat.le_of_ble_eq_true rfl) dX11_edge_24 ⟨Nat.zero_le _, Nat.zero_le _⟩ (fun r186 σ185 τ185 H locs h185 hP hS => ?_)
          obtain ⟨⟨rfl, rfl⟩, h185⟩ := h185
          rcases h185 with h187 | h188
          · obtain ⟨q190, k189⟩ := h187
            have q190 := q190.symm
            subst q190
            refine lv_if_eq (tgt := 33) hx hb dX11_edge_27 (of_decide_eq_true rfl) (fun c => absurd c (of_decide_eq_true rfl)) (fun _ => ?_)
            refine lv_ldc (v := (-2000000000)) hx hb hown (hts _ kw_9_21) dX11_edge_30 ?_
            exact by exact hret (-2000000000) σ τ _ _ _ _ rfl ⟨rfl, (fun _ _ => rfl), (fun _ _ => rfl), hI2, Or.inl ⟨rfl, (by have h9 := jz_m2000000000; omega), (by have h9 := jz_m2000000000; omega), (fun h => by unfold jEok at h; omega), ⟨rfl, rfl, rfl, rfl⟩⟩⟩ hP hS dX11_edge_32
          · obtain ⟨q192, k191⟩ := h188
            have q192 := q192.symm
            subst q192
            refine lv_if_eq (tgt := 33) hx hb dX11_edge_27 (of_decide_eq_true rfl) (fun _ => ?_) (fun c => absurd (of_decide_eq_true rfl) c)
            refine lv_aload_n hx hb dX11_edge_33 rfl (lv_at hl 1 rfl) ?_
            refine va_get (D := D) hx hb hts inlX11 hown hK hP 0 (jc_0 cI cL ad σ τ) rfl 0 (of_decide_eq_true rfl) (hts _ kw_1_16) (fun _ h9 => h9) rfl dX11_edge_34 ?_
            refine lv_iload hx hb dX11_edge_37 (lv_at hl 0 rfl) ?_
            refine lv_iload_n hx hb dX11_edge_39 rfl (lv_at hl 4 rfl) ?_
            exact by
             refine jcallV (As := [.int r9, .int a3]) (rest := []) ⟨hx, hb, hml, hown, hts⟩ hK hP hA hS hZ (c_X4_change_2 l D cI cL ad zz hJ σ τ r9 (r9.toInt) rfl a3 (A3) t3 hI2 (by omega)) cw_RX11_118 (jc_2 cI cL ad σ τ) rfl ⟨Nat.le_of_ble_eq_true rfl, Nat.le_of_ble_eq_true rfl⟩ rfl rfl rfl hl.1 rfl (Nat.le_of_ble_eq_true rfl) dX11_edge_40 ⟨Nat.zero_le _, Nat.zero_le _⟩ (fun r194 σ193 τ193 H locs h193 hP hS => ?_)
             obtain ⟨rfl, f195, f196, I197, w198, h193⟩ := h193
             obtain ⟨i200, i201, i202, i203, i204, w205, w206⟩ : (0 ≤ (σ193 2 0).toInt ∧ (σ193 2 0).toInt ≤ 4) ∧ (0 ≤ (σ193 2 1).toInt ∧ (σ193 2 1).toInt ≤ 3) ∧ (0 ≤ (σ193 2 2).toInt) ∧ (0 ≤ (σ193 2 3).toInt) ∧ ((σ193 2 2).toInt + (σ193 2 3).toInt ≤ 40) ∧ (∀ k : Nat, k < 40 → 0 ≤ (σ193 6 k).toInt ∧ (σ193 6 k).toInt ≤ 67) ∧ (∀ k : Nat, k < 4 → 0 ≤ (σ193 5 k).toInt ∧ (σ193 5 k).toInt ≤ 20) := id I197
             have z207 : (σ193 2 0).toInt = (σ 2 0).toInt := (congrArg Int32.toInt (show σ193 2 0 = (σ 2 0) from (f196 0 (of_decide_eq_true rfl))))
             have z208 : (σ193 2 1).toInt = (σ 2 1).toInt := (congrArg Int32.toInt (show σ193 2 1 = (σ 2 1) from (f196 1 (of_decide_eq_true rfl))))
             exact by exact hret r194 σ193 τ _ _ _ _ rfl ⟨rfl, (fun i hi => (f195 i hi)), (fun i hi => (f196 i hi)), I197, Or.inr (⟨trivial, ⟨(by unfold jEok; omega), r9.toInt, (by unfold jEpl; omega), w198⟩⟩)⟩ hP hS dX11_edge_43
        · obtain ⟨q210, k209⟩ := h180
          exact absurd (by omega : False) id
        · obtain ⟨q212, k211⟩ := h181
          have q212 := q212.symm
          subst q212
          refine jcallS (As := [.int a3, .int 0, .int 8]) (rest := []) ⟨hx, hb, hml, hown, hts⟩ hK hP hA hS hZ (c_X11_outside l D cI cL ad zz hJ σ τ a3 (A3) t3 0 (0) jz_0 8 (8) jz_8) cw_RX11_94 ⟨Nat.le_of_ble_eq_true rfl, Nat.le_of_ble_eq_true rfl⟩ rfl rfl rfl hl.1 rfl (Nat.le_of_ble_eq_true rfl) dX11_edge_24 ⟨Nat.zero_le _, Nat.zero_le _⟩ (fun r214 σ213 τ213 H locs h213 hP hS => ?_)
          obtain ⟨⟨rfl, rfl⟩, h213⟩ := h213
          rcases h213 with h215 | h216
          · obtain ⟨q218, k217⟩ := h215
            have q218 := q218.symm
            subst q218
            refine lv_if_eq (tgt := 33) hx hb dX11_edge_27 (of_decide_eq_true rfl) (fun c => absurd c (of_decide_eq_true rfl)) (fun _ => ?_)
            refine lv_ldc (v := (-2000000000)) hx hb hown (hts _ kw_9_21) dX11_edge_30 ?_
            exact by exact hret (-2000000000) σ τ _ _ _ _ rfl ⟨rfl, (fun _ _ => rfl), (fun _ _ => rfl), hI2, Or.inl ⟨rfl, (by have h9 := jz_m2000000000; omega), (by have h9 := jz_m2000000000; omega), (fun h => by unfold jEok at h; omega), ⟨rfl, rfl, rfl, rfl⟩⟩⟩ hP hS dX11_edge_32
          · obtain ⟨q220, k219⟩ := h216
            have q220 := q220.symm
            subst q220
            refine lv_if_eq (tgt := 33) hx hb dX11_edge_27 (of_decide_eq_true rfl) (fun _ => ?_) (fun c => absurd (of_decide_eq_true rfl) c)
            refine lv_aload_n hx hb dX11_edge_33 rfl (lv_at hl 1 rfl) ?_
            refine va_get (D := D) hx hb hts inlX11 hown hK hP 0 (jc_0 cI cL ad σ τ) rfl 0 (of_decide_eq_true rfl) (hts _ kw_1_16) (fun _ h9 => h9) rfl dX11_edge_34 ?_
            refine lv_iload hx hb dX11_edge_37 (lv_at hl 0 rfl) ?_
            refine lv_iload_n hx hb dX11_edge_39 rfl (lv_at hl 4 rfl) ?_
            exact by
             refine jcallV (As := [.int r9, .int a3]) (rest := []) ⟨hx, hb, hml, hown, hts⟩ hK hP hA hS hZ (c_X4_change_2 l D cI cL ad zz hJ σ τ r9 (r9.toInt) rfl a3 (A3) t3 hI2 (by omega)) cw_RX11_118 (jc_2 cI cL ad σ τ) rfl ⟨Nat.le_of_ble_eq_true rfl, Nat.le_of_ble_eq_true rfl⟩ rfl rfl rfl hl.1 rfl (Nat.le_of_ble_eq_true rfl) dX11_edge_40 ⟨Nat.zero_le _, Nat.zero_le _⟩ (fun r222 σ221 τ221 H locs h221 hP hS => ?_)
             obtain ⟨rfl, f223, f224, I225, w226, h221⟩ := h221
             obtain ⟨i228, i229, i230, i231, i232, w233, w234⟩ : (0 ≤ (σ221 2 0).toInt ∧ (σ221 2 0).toInt ≤ 4) ∧ (0 ≤ (σ221 2 1).toInt ∧ (σ221 2 1).toInt ≤ 3) ∧ (0 ≤ (σ221 2 2).toInt) ∧ (0 ≤ (σ221 2 3).toInt) ∧ ((σ221 2 2).toInt + (σ221 2 3).toInt ≤ 40) ∧ (∀ k : Nat, k < 40 → 0 ≤ (σ221 6 k).toInt ∧ (σ221 6 k).toInt ≤ 67) ∧ (∀ k : Nat, k < 4 → 0 ≤ (σ221 5 k).toInt ∧ (σ221 5 k).toInt ≤ 20) := id I225
             have z235 : (σ221 2 0).toInt = (σ 2 0).toInt := (congrArg Int32.toInt (show σ221 2 0 = (σ 2 0) from (f224 0 (of_decide_eq_true rfl))))
             have z236 : (σ221 2 1).toInt = (σ 2 1).toInt := (congrArg Int32.toInt (show σ221 2 1 = (σ 2 1) from (f224 1 (of_decide_eq_true rfl))))
             exact by exact hret r222 σ221 τ _ _ _ _ rfl ⟨rfl, (fun i hi => (f223 i hi)), (fun i hi => (f224 i hi)), I225, Or.inr (⟨trivial, ⟨(by unfold jEok; omega), r9.toInt, (by unfold jEpl; omega), w226⟩⟩)⟩ hP hS dX11_edge_43
        · obtain ⟨q238, k237⟩ := h182
          exact absurd (by omega : False) id
      · obtain ⟨q240, k239⟩ := h173
        exact absurd (by omega : False) id
      · obtain ⟨q242, k241⟩ := h174
        have q242 := q242.symm
        subst q242
        refine lv_iload hx hb dX11_edge_19 (lv_at hl 0 rfl) ?_
        refine jcallS (As := [.int r9]) (rest := [.int (-9), .int a3]) ⟨hx, hb, hml, hown, hts⟩ hK hP hA hS hZ (c_X4_highest l D cI cL ad zz hJ σ τ r9 (r9.toInt) rfl) cw_RX11_114 ⟨Nat.le_of_ble_eq_true rfl, Nat.le_of_ble_eq_true rfl⟩ rfl rfl rfl hl.1 rfl (Nat.le_of_ble_eq_true rfl) dX11_edge_21 ⟨Nat.zero_le _, Nat.zero_le _⟩ (fun r244 σ243 τ243 H locs h243 hP hS => ?_)
        obtain ⟨⟨rfl, rfl⟩, h243⟩ := h243
        rcases h243 with h245 | h246 | h247 | h248
        · obtain ⟨q250, k249⟩ := h245
          exact absurd (by omega : False) id
        · obtain ⟨q252, k251⟩ := h246
          have q252 := q252.symm
          subst q252
          refine jcallS (As := [.int a3, .int (-9), .int 9]) (rest := []) ⟨hx, hb, hml, hown, hts⟩ hK hP hA hS hZ (c_X11_outside l D cI cL ad zz hJ σ τ a3 (A3) t3 (-9) ((-9)) jz_m9 9 (9) jz_9) cw_RX11_94 ⟨Nat.le_of_ble_eq_true rfl, Nat.le_of_ble_eq_true rfl⟩ rfl rfl rfl hl.1 rfl (Nat.le_of_ble_eq_true rfl) dX11_edge_24 ⟨Nat.zero_le _, Nat.zero_le _⟩ (fun r254 σ253 τ253 H locs h253 hP hS => ?_)
          obtain ⟨⟨rfl, rfl⟩, h253⟩ := h253
          rcases h253 with h255 | h256
          · obtain ⟨q258, k257⟩ := h255
            have q258 := q258.symm
            subst q258
            refine lv_if_eq (tgt := 33) hx hb dX11_edge_27 (of_decide_eq_true rfl) (fun c => absurd c (of_decide_eq_true rfl)) (fun _ => ?_)
            refine lv_ldc (v := (-2000000000)) hx hb hown (hts _ kw_9_21) dX11_edge_30 ?_
            exact by exact hret (-2000000000) σ τ _ _ _ _ rfl ⟨rfl, (fun _ _ => rfl), (fun _ _ => rfl), hI2, Or.inl ⟨rfl, (by have h9 := jz_m2000000000; omega), (by have h9 := jz_m2000000000; omega), (fun h => by unfold jEok at h; omega), ⟨rfl, rfl, rfl, rfl⟩⟩⟩ hP hS dX11_edge_32
          · obtain ⟨q260, k259⟩ := h256
            have q260 := q260.symm
            subst q260
            refine lv_if_eq (tgt := 33) hx hb dX11_edge_27 (of_decide_eq_true rfl) (fun _ => ?_) (fun c => absurd (of_decide_eq_true rfl) c)
            refine lv_aload_n hx hb dX11_edge_33 rfl (lv_at hl 1 rfl) ?_
            refine va_get (D := D) hx hb hts inlX11 hown hK hP 0 (jc_0 cI cL ad σ τ) rfl 0 (of_decide_eq_true rfl) (hts _ kw_1_16) (fun _ h9 => h9) rfl dX11_edge_34 ?_
            refine lv_iload hx hb dX11_edge_37 (lv_at hl 0 rfl) ?_
            refine lv_iload_n hx hb dX11_edge_39 rfl (lv_at hl 4 rfl) ?_
            exact by
             refine jcallV (As := [.int r9, .int a3]) (rest := []) ⟨hx, hb, hml, hown, hts⟩ hK hP hA hS hZ (c_X4_change_2 l D cI cL ad zz hJ σ τ r9 (r9.toInt) rfl a3 (A3) t3 hI2 (by omega)) cw_RX11_118 (jc_2 cI cL ad σ τ) rfl ⟨Nat.le_of_ble_eq_true rfl, Nat.le_of_ble_eq_true rfl⟩ rfl rfl rfl hl.1 rfl (Nat.le_of_ble_eq_true rfl) dX11_edge_40 ⟨Nat.zero_le _, Nat.zero_le _⟩ (fun r262 σ261 τ261 H locs h261 hP hS => ?_)
             obtain ⟨rfl, f263, f264, I265, w266, h261⟩ := h261
             obtain ⟨i268, i269, i270, i271, i272, w273, w274⟩ : (0 ≤ (σ261 2 0).toInt ∧ (σ261 2 0).toInt ≤ 4) ∧ (0 ≤ (σ261 2 1).toInt ∧ (σ261 2 1).toInt ≤ 3) ∧ (0 ≤ (σ261 2 2).toInt) ∧ (0 ≤ (σ261 2 3).toInt) ∧ ((σ261 2 2).toInt + (σ261 2 3).toInt ≤ 40) ∧ (∀ k : Nat, k < 40 → 0 ≤ (σ261 6 k).toInt ∧ (σ261 6 k).toInt ≤ 67) ∧ (∀ k : Nat, k < 4 → 0 ≤ (σ261 5 k).toInt ∧ (σ261 5 k).toInt ≤ 20) := id I265
             have z275 : (σ261 2 0).toInt = (σ 2 0).toInt := (congrArg Int32.toInt (show σ261 2 0 = (σ 2 0) from (f264 0 (of_decide_eq_true rfl))))
             have z276 : (σ261 2 1).toInt = (σ 2 1).toInt := (congrArg Int32.toInt (show σ261 2 1 = (σ 2 1) from (f264 1 (of_decide_eq_true rfl))))
             exact by exact hret r262 σ261 τ _ _ _ _ rfl ⟨rfl, (fun i hi => (f263 i hi)), (fun i hi => (f264 i hi)), I265, Or.inr (⟨trivial, ⟨(by unfold jEok; omega), r9.toInt, (by unfold jEpl; omega), w266⟩⟩)⟩ hP hS dX11_edge_43
        · obtain ⟨q278, k277⟩ := h247
          exact absurd (by omega : False) id
        · obtain ⟨q280, k279⟩ := h248
          exact absurd (by omega : False) id
  · obtain ⟨q282, k281⟩ := h13
    have q282 := q282.symm
    subst q282
    refine lv_istore (lv' := [(4, .int (-1)), (0, .ref (ad 0)), (1, .int a1), (2, .int a2), (3, .int a3)]) hx hb dX11_edge_6 hl (of_decide_eq_true rfl) rfl (fun ls hl => ?_)
    refine lv_iload hx hb dX11_edge_8 (lv_at hl 0 rfl) ?_
    refine lv_if_lt (tgt := 30) hx hb dX11_edge_10 (of_decide_eq_true rfl) (fun _ => ?_) (fun c => absurd (of_decide_eq_true rfl) c)
    refine lv_ldc (v := (-2000000000)) hx hb hown (hts _ kw_9_21) dX11_edge_30 ?_
    exact by exact hret (-2000000000) σ τ _ _ _ _ rfl ⟨rfl, (fun _ _ => rfl), (fun _ _ => rfl), hI2, Or.inl ⟨rfl, (by have h9 := jz_m2000000000; omega), (by have h9 := jz_m2000000000; omega), (fun h => by unfold jEok at h; omega), ⟨rfl, rfl, rfl, rfl⟩⟩⟩ hP hS dX11_edge_32
set_option maxHeartbeats 4000000 in
set_option maxRecDepth 100000 in
theorem dv_c_X11_field (l : Launch) (D : va_G) (cI cL : ClassId) (ad zz : Nat → Nat) (hJ : jD ad) (σ : Nat → Nat → Int32) (τ : Nat → Nat → Int64) (a1 : Int32) (A1 : Int) (t1 : a1.toInt = A1) (a2 : Int32) (A2 : Int) (t2 : a2.toInt = A2) (a3 : Int32) (A3 : Int) (t3 : a3.toInt = A3) (hI2 : jI2 σ) : jM l yX11_field cX11_field 5 (some .int) ({ frames := 2, cells := 0, slots := 0, locals := 44 }) D cI cL ad zz [.ref (ad 0), .int a1, .int a2, .int a3] σ τ (fun r σ' τ' => τ = τ' ∧ (∀ i : Nat, (i < 2 ∨ 3 < i) ∧ (i < 6 ∨ 8 < i) → σ' i = σ i) ∧ (∀ k : Nat, (k < 2 ∨ 2 < k) ∧ (k < 3 ∨ 3 < k) → σ' 2 k = σ 2 k) ∧ (jI2 σ') ∧ ((r = (-2000000000) ∧ ((σ' 2 2).toInt = (σ 2 2).toInt) ∧ ((σ' 2 3).toInt = (σ 2 3).toInt) ∧ (¬ jFok (A1) (A2) (A3) ((σ 2 0).toInt)) ∧ (σ' 3 = σ 3 ∧ σ' 6 = σ 6 ∧ σ' 7 = σ 7 ∧ σ' 8 = σ 8)) ∨ (True ∧ (jFok (A1) (A2) (A3) ((σ 2 0).toInt) ∧ ∃ q : Int, jFpl (A1) (A2) q ∧ jChg (q) a3 r (σ 3) (σ' 3) (σ 6) (σ' 6) (σ 7) (σ' 7) (σ 8) (σ' 8) (σ 2 2).toInt (σ' 2 2).toInt ((σ 2 2).toInt + (σ 2 3).toInt) ((σ' 2 2).toInt + (σ' 2 3).toInt))))) := by
  refine jM.of hJ (by decide +kernel) (nt := .int) rfl (Nat.le_of_ble_eq_true rfl) ?_
  intro p e s m args below meth c Q ls hC hret hl hP
  obtain ⟨hx, hb, hr, hml, hown, hts, hK, -, hlocks, hZ⟩ := hC
  have hown : s.vm.findClass RX11 = some m.cls := hown
  have hS : va_S (jA ad) s.heap s.heap [] := va_S.rf
  have hA : ∀ q, jA ad q → jA ad q := fun _ h => h
  have hl : lv_has ls 5 [(0, .ref (ad 0)), (1, .int a1), (2, .int a2), (3, .int a3)] := hl
  have g1 := jrg t1
  have g2 := jrg t2
  have g3 := jrg t3
  obtain ⟨i1, i2, i3, i4, i5, w6, w7⟩ : (0 ≤ (σ 2 0).toInt ∧ (σ 2 0).toInt ≤ 4) ∧ (0 ≤ (σ 2 1).toInt ∧ (σ 2 1).toInt ≤ 3) ∧ (0 ≤ (σ 2 2).toInt) ∧ (0 ≤ (σ 2 3).toInt) ∧ ((σ 2 2).toInt + (σ 2 3).toInt ≤ 40) ∧ (∀ k : Nat, k < 40 → 0 ≤ (σ 6 k).toInt ∧ (σ 6 k).toInt ≤ 67) ∧ (∀ k : Nat, k < 4 → 0 ≤ (σ 5 k).toInt ∧ (σ 5 k).toInt ≤ 20) := id hI2
  refine lv_iload_n hx hb dX11_field_0 rfl (lv_at hl 1 rfl) ?_
  refine lv_if_lt (tgt := 37) hx hb dX11_field_1 (of_decide_eq_true rfl) (fun c8 => ?_) (fun c8 => ?_)
  · have kc8 := jlt c8 t1 jz_0
    refine lv_ldc (v := (-2000000000)) hx hb hown (hts _ kw_9_21) dX11_field_37 ?_
    exact by exact hret (-2000000000) σ τ _ _ _ _ rfl ⟨rfl, (fun _ _ => rfl), (fun _ _ => rfl), hI2, Or.inl ⟨rfl, (by have h9 := jz_m2000000000; omega), (by have h9 := jz_m2000000000; omega), (fun h => by unfold jFok at h; omega), ⟨rfl, rfl, rfl, rfl⟩⟩⟩ hP hS dX11_field_39
  · have kc8 := jnlt c8 t1 jz_0
    refine lv_iload_n hx hb dX11_field_4 rfl (lv_at hl 1 rfl) ?_
    refine lv_bipush (v := 10) hx hb dX11_field_5 (of_decide_eq_true rfl) ?_
    refine lv_idiv hx hb dX11_field_7 (of_decide_eq_true rfl) ?_
    refine lv_topi (fun x9 ex9 => ?_)
    exact by
     have tx9 : x9.toInt = (A1 / 10) := jdiv ex9 t1 jz_10 (by omega) (by omega)
     refine lv_iconst (v := 0) hx hb dX11_field_8 (of_decide_eq_true rfl) ?_
     refine lv_iconst (v := 3) hx hb dX11_field_9 (of_decide_eq_true rfl) ?_
     refine jcallS (As := [.int x9, .int 0, .int 3]) (rest := []) ⟨hx, hb, hml, hown, hts⟩ hK hP hA hS hZ (c_X11_outside l D cI cL ad zz hJ σ τ x9 ((A1 / 10)) tx9 0 (0) jz_0 3 (3) jz_3) cw_RX11_94 ⟨Nat.le_of_ble_eq_true rfl, Nat.le_of_ble_eq_true rfl⟩ rfl rfl rfl hl.1 rfl (Nat.le_of_ble_eq_true rfl) dX11_field_10 ⟨Nat.zero_le _, Nat.zero_le _⟩ (fun r11 σ10 τ10 H locs h10 hP hS => ?_)
     obtain ⟨⟨rfl, rfl⟩, h10⟩ := h10
     rcases h10 with h12 | h13
     · obtain ⟨q15, k14⟩ := h12
       have q15 := q15.symm
       subst q15
       refine lv_if_ne (tgt := 37) hx hb dX11_field_13 (of_decide_eq_true rfl) (fun _ => ?_) (fun c => absurd c (of_decide_eq_true rfl))
       refine lv_ldc (v := (-2000000000)) hx hb hown (hts _ kw_9_21) dX11_field_37 ?_
       exact by exact hret (-2000000000) σ τ _ _ _ _ rfl ⟨rfl, (fun _ _ => rfl), (fun _ _ => rfl), hI2, Or.inl ⟨rfl, (by have h9 := jz_m2000000000; omega), (by have h9 := jz_m2000000000; omega), (fun h => by unfold jFok at h; omega), ⟨rfl, rfl, rfl, rfl⟩⟩⟩ hP hS dX11_field_39
     · obtain ⟨q17, k16⟩ := h13
       have q17 := q17.symm
       subst q17
       refine lv_if_ne (tgt := 37) hx hb dX11_field_13 (of_decide_eq_true rfl) (fun c => absurd (of_decide_eq_true rfl) c) (fun _ => ?_)
       refine lv_iload_n hx hb dX11_field_16 rfl (lv_at hl 1 rfl) ?_
       refine lv_bipush (v := 10) hx hb dX11_field_17 (of_decide_eq_true rfl) ?_
       refine lv_irem hx hb dX11_field_19 (of_decide_eq_true rfl) ?_
       refine lv_topi (fun x18 ex18 => ?_)
       exact by
        have tx18 : x18.toInt = (A1 % 10) := jrem ex18 t1 jz_10 (by omega)
        refine lv_iconst (v := 0) hx hb dX11_field_20 (of_decide_eq_true rfl) ?_
        refine lv_iconst (v := 3) hx hb dX11_field_21 (of_decide_eq_true rfl) ?_
        refine jcallS (As := [.int x18, .int 0, .int 3]) (rest := []) ⟨hx, hb, hml, hown, hts⟩ hK hP hA hS hZ (c_X11_outside l D cI cL ad zz hJ σ τ x18 ((A1 % 10)) tx18 0 (0) jz_0 3 (3) jz_3) cw_RX11_94 ⟨Nat.le_of_ble_eq_true rfl, Nat.le_of_ble_eq_true rfl⟩ rfl rfl rfl hl.1 rfl (Nat.le_of_ble_eq_true rfl) dX11_field_22 ⟨Nat.zero_le _, Nat.zero_le _⟩ (fun r20 σ19 τ19 H locs h19 hP hS => ?_)
        obtain ⟨⟨rfl, rfl⟩, h19⟩ := h19
        rcases h19 with h21 | h22
        · obtain ⟨q24, k23⟩ := h21
          have q24 := q24.symm
          subst q24
          refine lv_if_ne (tgt := 37) hx hb dX11_field_25 (of_decide_eq_true rfl) (fun _ => ?_) (fun c => absurd c (of_decide_eq_true rfl))
          refine lv_ldc (v := (-2000000000)) hx hb hown (hts _ kw_9_21) dX11_field_37 ?_
          exact by exact hret (-2000000000) σ τ _ _ _ _ rfl ⟨rfl, (fun _ _ => rfl), (fun _ _ => rfl), hI2, Or.inl ⟨rfl, (by have h9 := jz_m2000000000; omega), (by have h9 := jz_m2000000000; omega), (fun h => by unfold jFok at h; omega), ⟨rfl, rfl, rfl, rfl⟩⟩⟩ hP hS dX11_field_39
        · obtain ⟨q26, k25⟩ := h22
          have q26 := q26.symm
          subst q26
          refine lv_if_ne (tgt := 37) hx hb dX11_field_25 (of_decide_eq_true rfl) (fun c => absurd (of_decide_eq_true rfl) c) (fun _ => ?_)
          refine lv_iload_n hx hb dX11_field_28 rfl (lv_at hl 2 rfl) ?_
          refine lv_iconst (v := 0) hx hb dX11_field_29 (of_decide_eq_true rfl) ?_
          refine lv_iconst (v := 1) hx hb dX11_field_30 (of_decide_eq_true rfl) ?_
          refine jcallS (As := [.int a2, .int 0, .int 1]) (rest := []) ⟨hx, hb, hml, hown, hts⟩ hK hP hA hS hZ (c_X11_outside l D cI cL ad zz hJ σ τ a2 (A2) t2 0 (0) jz_0 1 (1) jz_1) cw_RX11_94 ⟨Nat.le_of_ble_eq_true rfl, Nat.le_of_ble_eq_true rfl⟩ rfl rfl rfl hl.1 rfl (Nat.le_of_ble_eq_true rfl) dX11_field_31 ⟨Nat.zero_le _, Nat.zero_le _⟩ (fun r28 σ27 τ27 H locs h27 hP hS => ?_)
          obtain ⟨⟨rfl, rfl⟩, h27⟩ := h27
          rcases h27 with h29 | h30
          · obtain ⟨q32, k31⟩ := h29
            have q32 := q32.symm
            subst q32
            refine lv_if_eq (tgt := 40) hx hb dX11_field_34 (of_decide_eq_true rfl) (fun c => absurd c (of_decide_eq_true rfl)) (fun _ => ?_)
            refine lv_ldc (v := (-2000000000)) hx hb hown (hts _ kw_9_21) dX11_field_37 ?_
            exact by exact hret (-2000000000) σ τ _ _ _ _ rfl ⟨rfl, (fun _ _ => rfl), (fun _ _ => rfl), hI2, Or.inl ⟨rfl, (by have h9 := jz_m2000000000; omega), (by have h9 := jz_m2000000000; omega), (fun h => by unfold jFok at h; omega), ⟨rfl, rfl, rfl, rfl⟩⟩⟩ hP hS dX11_field_39
          · obtain ⟨q34, k33⟩ := h30
            have q34 := q34.symm
            subst q34
            refine lv_if_eq (tgt := 40) hx hb dX11_field_34 (of_decide_eq_true rfl) (fun _ => ?_) (fun c => absurd (of_decide_eq_true rfl) c)
            refine lv_iload_n hx hb dX11_field_40 rfl (lv_at hl 2 rfl) ?_
            refine lv_if_ne (tgt := 49) hx hb dX11_field_41 (of_decide_eq_true rfl) (fun c35 => ?_) (fun c35 => ?_)
            · have kc35 := jne c35 t2 jz_0
              refine lv_bipush (v := 52) hx hb dX11_field_49 (of_decide_eq_true rfl) ?_
              refine lv_iload_n hx hb dX11_field_51 rfl (lv_at hl 1 rfl) ?_
              refine lv_bipush (v := 10) hx hb dX11_field_52 (of_decide_eq_true rfl) ?_
              refine lv_idiv hx hb dX11_field_54 (of_decide_eq_true rfl) ?_
              refine lv_topi (fun x36 ex36 => ?_)
              exact by
               have tx36 : x36.toInt = (A1 / 10) := jdiv ex36 t1 jz_10 (by omega) (by omega)
               refine lv_iconst (v := 4) hx hb dX11_field_55 (of_decide_eq_true rfl) ?_
               refine lv_imul hx hb dX11_field_56 ?_
               refine lv_topi (fun x37 ex37 => ?_)
               have tx37 : x37.toInt = 4 * (A1 / 10) := (jmul ex37 tx36 jz_4 (by omega) (by omega)).trans (by omega)
               refine lv_iadd hx hb dX11_field_57 ?_
               refine lv_topi (fun x38 ex38 => ?_)
               have tx38 : x38.toInt = 4 * (A1 / 10) + 52 := (jadd ex38 jz_52 tx37 (by omega) (by omega)).trans (by omega)
               refine lv_iload_n hx hb dX11_field_58 rfl (lv_at hl 1 rfl) ?_
               exact by
                refine lv_bipush (v := 10) hx hb dX11_field_59 (of_decide_eq_true rfl) ?_
                refine lv_irem hx hb dX11_field_61 (of_decide_eq_true rfl) ?_
                refine lv_topi (fun x39 ex39 => ?_)
                have tx39 : x39.toInt = (A1 % 10) := jrem ex39 t1 jz_10 (by omega)
                refine lv_iadd hx hb dX11_field_62 ?_
                refine lv_topi (fun x40 ex40 => ?_)
                have tx40 : x40.toInt = 4 * (A1 / 10) + (A1 % 10) + 52 := (jadd ex40 tx38 tx39 (by omega) (by omega)).trans (by omega)
                refine lv_istore (lv' := [(4, .int x40), (0, .ref (ad 0)), (1, .int a1), (2, .int a2), (3, .int a3)]) hx hb dX11_field_63 hl (of_decide_eq_true rfl) rfl (fun ls hl => ?_)
                refine lv_iload_n hx hb dX11_field_65 rfl (lv_at hl 4 rfl) ?_
                exact by
                 refine lv_iload hx hb dX11_field_66 (lv_at hl 0 rfl) ?_
                 refine jcallS (As := [.int x40]) (rest := [.int a3]) ⟨hx, hb, hml, hown, hts⟩ hK hP hA hS hZ (c_X4_lowest l D cI cL ad zz hJ σ τ x40 (4 * (A1 / 10) + (A1 % 10) + 52) tx40) cw_RX11_110 ⟨Nat.le_of_ble_eq_true rfl, Nat.le_of_ble_eq_true rfl⟩ rfl rfl rfl hl.1 rfl (Nat.le_of_ble_eq_true rfl) dX11_field_68 ⟨Nat.zero_le _, Nat.zero_le _⟩ (fun r42 σ41 τ41 H locs h41 hP hS => ?_)
                 obtain ⟨⟨rfl, rfl⟩, h41⟩ := h41
                 rcases h41 with h43 | h44 | h45
                 · obtain ⟨q47, k46⟩ := h43
                   exact absurd (by omega : False) id
                 · obtain ⟨q49, k48⟩ := h44
                   exact absurd (by omega : False) id
                 · obtain ⟨q51, k50⟩ := h45
                   have q51 := q51.symm
                   subst q51
                   refine lv_iload hx hb dX11_field_71 (lv_at hl 0 rfl) ?_
                   refine jcallS (As := [.int x40]) (rest := [.int (-9), .int a3]) ⟨hx, hb, hml, hown, hts⟩ hK hP hA hS hZ (c_X4_highest l D cI cL ad zz hJ σ τ x40 (4 * (A1 / 10) + (A1 % 10) + 52) tx40) cw_RX11_114 ⟨Nat.le_of_ble_eq_true rfl, Nat.le_of_ble_eq_true rfl⟩ rfl rfl rfl hl.1 rfl (Nat.le_of_ble_eq_true rfl) dX11_field_73 ⟨Nat.zero_le _, Nat.zero_le _⟩ (fun r53 σ52 τ52 H locs h52 hP hS => ?_)
                   obtain ⟨⟨rfl, rfl⟩, h52⟩ := h52
                   rcases h52 with h54 | h55 | h56 | h57
                   · obtain ⟨q59, k58⟩ := h54
                     exact absurd (by omega : False) id
                   · obtain ⟨q61, k60⟩ := h55
                     have q61 := q61.symm
                     subst q61
                     refine jcallS (As := [.int a3, .int (-9), .int 9]) (rest := []) ⟨hx, hb, hml, hown, hts⟩ hK hP hA hS hZ (c_X11_outside l D cI cL ad zz hJ σ τ a3 (A3) t3 (-9) ((-9)) jz_m9 9 (9) jz_9) cw_RX11_94 ⟨Nat.le_of_ble_eq_true rfl, Nat.le_of_ble_eq_true rfl⟩ rfl rfl rfl hl.1 rfl (Nat.le_of_ble_eq_true rfl) dX11_field_76 ⟨Nat.zero_le _, Nat.zero_le _⟩ (fun r63 σ62 τ62 H locs h62 hP hS => ?_)
                     obtain ⟨⟨rfl, rfl⟩, h62⟩ := h62
                     rcases h62 with h64 | h65
                     · obtain ⟨q67, k66⟩ := h64
                       have q67 := q67.symm
                       subst q67
                       refine lv_if_eq (tgt := 85) hx hb dX11_field_79 (of_decide_eq_true rfl) (fun c => absurd c (of_decide_eq_true rfl)) (fun _ => ?_)
                       refine lv_ldc (v := (-2000000000)) hx hb hown (hts _ kw_9_21) dX11_field_82 ?_
                       exact by exact hret (-2000000000) σ τ _ _ _ _ rfl ⟨rfl, (fun _ _ => rfl), (fun _ _ => rfl), hI2, Or.inl ⟨rfl, (by have h9 := jz_m2000000000; omega), (by have h9 := jz_m2000000000; omega), (fun h => by unfold jFok at h; omega), ⟨rfl, rfl, rfl, rfl⟩⟩⟩ hP hS dX11_field_84
                     · obtain ⟨q69, k68⟩ := h65
                       have q69 := q69.symm
                       subst q69
                       refine lv_if_eq (tgt := 85) hx hb dX11_field_79 (of_decide_eq_true rfl) (fun _ => ?_) (fun c => absurd (of_decide_eq_true rfl) c)
                       refine lv_aload_n hx hb dX11_field_85 rfl (lv_at hl 1 rfl) ?_
                       refine va_get (D := D) hx hb hts inlX11 hown hK hP 0 (jc_0 cI cL ad σ τ) rfl 0 (of_decide_eq_true rfl) (hts _ kw_1_16) (fun _ h9 => h9) rfl dX11_field_86 ?_
                       refine lv_iload hx hb dX11_field_89 (lv_at hl 0 rfl) ?_
                       refine lv_iload_n hx hb dX11_field_91 rfl (lv_at hl 4 rfl) ?_
                       exact by
                        refine jcallV (As := [.int x40, .int a3]) (rest := []) ⟨hx, hb, hml, hown, hts⟩ hK hP hA hS hZ (c_X4_change_2 l D cI cL ad zz hJ σ τ x40 (4 * (A1 / 10) + (A1 % 10) + 52) tx40 a3 (A3) t3 hI2 (by omega)) cw_RX11_118 (jc_2 cI cL ad σ τ) rfl ⟨Nat.le_of_ble_eq_true rfl, Nat.le_of_ble_eq_true rfl⟩ rfl rfl rfl hl.1 rfl (Nat.le_of_ble_eq_true rfl) dX11_field_92 ⟨Nat.zero_le _, Nat.zero_le _⟩ (fun r71 σ70 τ70 H locs h70 hP hS => ?_)
                        obtain ⟨rfl, f72, f73, I74, w75, h70⟩ := h70
                        obtain ⟨i77, i78, i79, i80, i81, w82, w83⟩ : (0 ≤ (σ70 2 0).toInt ∧ (σ70 2 0).toInt ≤ 4) ∧ (0 ≤ (σ70 2 1).toInt ∧ (σ70 2 1).toInt ≤ 3) ∧ (0 ≤ (σ70 2 2).toInt) ∧ (0 ≤ (σ70 2 3).toInt) ∧ ((σ70 2 2).toInt + (σ70 2 3).toInt ≤ 40) ∧ (∀ k : Nat, k < 40 → 0 ≤ (σ70 6 k).toInt ∧ (σ70 6 k).toInt ≤ 67) ∧ (∀ k : Nat, k < 4 → 0 ≤ (σ70 5 k).toInt ∧ (σ70 5 k).toInt ≤ 20) := id I74
                        have z84 : (σ70 2 0).toInt = (σ 2 0).toInt := (congrArg Int32.toInt (show σ70 2 0 = (σ 2 0) from (f73 0 (of_decide_eq_true rfl))))
                        have z85 : (σ70 2 1).toInt = (σ 2 1).toInt := (congrArg Int32.toInt (show σ70 2 1 = (σ 2 1) from (f73 1 (of_decide_eq_true rfl))))
                        exact by exact hret r71 σ70 τ _ _ _ _ rfl ⟨rfl, (fun i hi => (f72 i hi)), (fun i hi => (f73 i hi)), I74, Or.inr (⟨trivial, ⟨(by unfold jFok; omega), 4 * (A1 / 10) + (A1 % 10) + 52, (by unfold jFpl; omega), w75⟩⟩)⟩ hP hS dX11_field_95
                   · obtain ⟨q87, k86⟩ := h56
                     exact absurd (by omega : False) id
                   · obtain ⟨q89, k88⟩ := h57
                     exact absurd (by omega : False) id
            · have kc35 := jeq c35 t2 jz_0
              refine lv_bipush (v := 36) hx hb dX11_field_44 (of_decide_eq_true rfl) ?_
              refine lv_goto (tgt := 51) hx hb dX11_field_46 (of_decide_eq_true rfl) ?_
              refine lv_iload_n hx hb dX11_field_51 rfl (lv_at hl 1 rfl) ?_
              refine lv_bipush (v := 10) hx hb dX11_field_52 (of_decide_eq_true rfl) ?_
              refine lv_idiv hx hb dX11_field_54 (of_decide_eq_true rfl) ?_
              refine lv_topi (fun x90 ex90 => ?_)
              exact by
               have tx90 : x90.toInt = (A1 / 10) := jdiv ex90 t1 jz_10 (by omega) (by omega)
               refine lv_iconst (v := 4) hx hb dX11_field_55 (of_decide_eq_true rfl) ?_
               refine lv_imul hx hb dX11_field_56 ?_
               refine lv_topi (fun x91 ex91 => ?_)
               have tx91 : x91.toInt = 4 * (A1 / 10) := (jmul ex91 tx90 jz_4 (by omega) (by omega)).trans (by omega)
               refine lv_iadd hx hb dX11_field_57 ?_
               refine lv_topi (fun x92 ex92 => ?_)
               have tx92 : x92.toInt = 4 * (A1 / 10) + 36 := (jadd ex92 jz_36 tx91 (by omega) (by omega)).trans (by omega)
               refine lv_iload_n hx hb dX11_field_58 rfl (lv_at hl 1 rfl) ?_
               exact by
                refine lv_bipush (v := 10) hx hb dX11_field_59 (of_decide_eq_true rfl) ?_
                refine lv_irem hx hb dX11_field_61 (of_decide_eq_true rfl) ?_
                refine lv_topi (fun x93 ex93 => ?_)
                have tx93 : x93.toInt = (A1 % 10) := jrem ex93 t1 jz_10 (by omega)
                refine lv_iadd hx hb dX11_field_62 ?_
                refine lv_topi (fun x94 ex94 => ?_)
                have tx94 : x94.toInt = 4 * (A1 / 10) + (A1 % 10) + 36 := (jadd ex94 tx92 tx93 (by omega) (by omega)).trans (by omega)
                refine lv_istore (lv' := [(4, .int x94), (0, .ref (ad 0)), (1, .int a1), (2, .int a2), (3, .int a3)]) hx hb dX11_field_63 hl (of_decide_eq_true rfl) rfl (fun ls hl => ?_)
                refine lv_iload_n hx hb dX11_field_65 rfl (lv_at hl 4 rfl) ?_
                exact by
                 refine lv_iload hx hb dX11_field_66 (lv_at hl 0 rfl) ?_
                 refine jcallS (As := [.int x94]) (rest := [.int a3]) ⟨hx, hb, hml, hown, hts⟩ hK hP hA hS hZ (c_X4_lowest l D cI cL ad zz hJ σ τ x94 (4 * (A1 / 10) + (A1 % 10) + 36) tx94) cw_RX11_110 ⟨Nat.le_of_ble_eq_true rfl, Nat.le_of_ble_eq_true rfl⟩ rfl rfl rfl hl.1 rfl (Nat.le_of_ble_eq_true rfl) dX11_field_68 ⟨Nat.zero_le _, Nat.zero_le _⟩ (fun r96 σ95 τ95 H locs h95 hP hS => ?_)
                 obtain ⟨⟨rfl, rfl⟩, h95⟩ := h95
                 rcases h95 with h97 | h98 | h99
                 · obtain ⟨q101, k100⟩ := h97
                   exact absurd (by omega : False) id
                 · obtain ⟨q103, k102⟩ := h98
                   have q103 := q103.symm
                   subst q103
                   refine lv_iload hx hb dX11_field_71 (lv_at hl 0 rfl) ?_
                   refine jcallS (As := [.int x94]) (rest := [.int (-200), .int a3]) ⟨hx, hb, hml, hown, hts⟩ hK hP hA hS hZ (c_X4_highest l D cI cL ad zz hJ σ τ x94 (4 * (A1 / 10) + (A1 % 10) + 36) tx94) cw_RX11_114 ⟨Nat.le_of_ble_eq_true rfl, Nat.le_of_ble_eq_true rfl⟩ rfl rfl rfl hl.1 rfl (Nat.le_of_ble_eq_true rfl) dX11_field_73 ⟨Nat.zero_le _, Nat.zero_le _⟩ (fun r105 σ104 τ104 H locs h104 hP hS => ?_)
                   obtain ⟨⟨rfl, rfl⟩, h104⟩ := h104
                   rcases h104 with h106 | h107 | h108 | h109
                   · obtain ⟨q111, k110⟩ := h106
                     exact absurd (by omega : False) id
                   · obtain ⟨q113, k112⟩ := h107
                     exact absurd (by omega : False) id
                   · obtain ⟨q115, k114⟩ := h108
                     exact absurd (by omega : False) id
                   · obtain ⟨q117, k116⟩ := h109
                     have q117 := q117.symm
                     subst q117
                     refine jcallS (As := [.int a3, .int (-200), .int 200]) (rest := []) ⟨hx, hb, hml, hown, hts⟩ hK hP hA hS hZ (c_X11_outside l D cI cL ad zz hJ σ τ a3 (A3) t3 (-200) ((-200)) jz_m200 200 (200) jz_200) cw_RX11_94 ⟨Nat.le_of_ble_eq_true rfl, Nat.le_of_ble_eq_true rfl⟩ rfl rfl rfl hl.1 rfl (Nat.le_of_ble_eq_true rfl) dX11_field_76 ⟨Nat.zero_le _, Nat.zero_le _⟩ (fun r119 σ118 τ118 H locs h118 hP hS => ?_)
                     obtain ⟨⟨rfl, rfl⟩, h118⟩ := h118
                     rcases h118 with h120 | h121
                     · obtain ⟨q123, k122⟩ := h120
                       have q123 := q123.symm
                       subst q123
                       refine lv_if_eq (tgt := 85) hx hb dX11_field_79 (of_decide_eq_true rfl) (fun c => absurd c (of_decide_eq_true rfl)) (fun _ => ?_)
                       refine lv_ldc (v := (-2000000000)) hx hb hown (hts _ kw_9_21) dX11_field_82 ?_
                       exact by exact hret (-2000000000) σ τ _ _ _ _ rfl ⟨rfl, (fun _ _ => rfl), (fun _ _ => rfl), hI2, Or.inl ⟨rfl, (by have h9 := jz_m2000000000; omega), (by have h9 := jz_m2000000000; omega), (fun h => by unfold jFok at h; omega), ⟨rfl, rfl, rfl, rfl⟩⟩⟩ hP hS dX11_field_84
                     · obtain ⟨q125, k124⟩ := h121
                       have q125 := q125.symm
                       subst q125
                       refine lv_if_eq (tgt := 85) hx hb dX11_field_79 (of_decide_eq_true rfl) (fun _ => ?_) (fun c => absurd (of_decide_eq_true rfl) c)
                       refine lv_aload_n hx hb dX11_field_85 rfl (lv_at hl 1 rfl) ?_
                       refine va_get (D := D) hx hb hts inlX11 hown hK hP 0 (jc_0 cI cL ad σ τ) rfl 0 (of_decide_eq_true rfl) (hts _ kw_1_16) (fun _ h9 => h9) rfl dX11_field_86 ?_
                       refine lv_iload hx hb dX11_field_89 (lv_at hl 0 rfl) ?_
                       refine lv_iload_n hx hb dX11_field_91 rfl (lv_at hl 4 rfl) ?_
                       exact by
                        refine jcallV (As := [.int x94, .int a3]) (rest := []) ⟨hx, hb, hml, hown, hts⟩ hK hP hA hS hZ (c_X4_change_2 l D cI cL ad zz hJ σ τ x94 (4 * (A1 / 10) + (A1 % 10) + 36) tx94 a3 (A3) t3 hI2 (by omega)) cw_RX11_118 (jc_2 cI cL ad σ τ) rfl ⟨Nat.le_of_ble_eq_true rfl, Nat.le_of_ble_eq_true rfl⟩ rfl rfl rfl hl.1 rfl (Nat.le_of_ble_eq_true rfl) dX11_field_92 ⟨Nat.zero_le _, Nat.zero_le _⟩ (fun r127 σ126 τ126 H locs h126 hP hS => ?_)
                        obtain ⟨rfl, f128, f129, I130, w131, h126⟩ := h126
                        obtain ⟨i133, i134, i135, i136, i137, w138, w139⟩ : (0 ≤ (σ126 2 0).toInt ∧ (σ126 2 0).toInt ≤ 4) ∧ (0 ≤ (σ126 2 1).toInt ∧ (σ126 2 1).toInt ≤ 3) ∧ (0 ≤ (σ126 2 2).toInt) ∧ (0 ≤ (σ126 2 3).toInt) ∧ ((σ126 2 2).toInt + (σ126 2 3).toInt ≤ 40) ∧ (∀ k : Nat, k < 40 → 0 ≤ (σ126 6 k).toInt ∧ (σ126 6 k).toInt ≤ 67) ∧ (∀ k : Nat, k < 4 → 0 ≤ (σ126 5 k).toInt ∧ (σ126 5 k).toInt ≤ 20) := id I130
                        have z140 : (σ126 2 0).toInt = (σ 2 0).toInt := (congrArg Int32.toInt (show σ126 2 0 = (σ 2 0) from (f129 0 (of_decide_eq_true rfl))))
                        have z141 : (σ126 2 1).toInt = (σ 2 1).toInt := (congrArg Int32.toInt (show σ126 2 1 = (σ 2 1) from (f129 1 (of_decide_eq_true rfl))))
                        exact by exact hret r127 σ126 τ _ _ _ _ rfl ⟨rfl, (fun i hi => (f128 i hi)), (fun i hi => (f129 i hi)), I130, Or.inr (⟨trivial, ⟨(by unfold jFok; omega), 4 * (A1 / 10) + (A1 % 10) + 36, (by unfold jFpl; omega), w131⟩⟩)⟩ hP hS dX11_field_95
                 · obtain ⟨q143, k142⟩ := h99
                   exact absurd (by omega : False) id
set_option maxHeartbeats 4000000 in
set_option maxRecDepth 100000 in
theorem dv_c_X11_puts (l : Launch) (D : va_G) (cI cL : ClassId) (ad zz : Nat → Nat) (hJ : jD ad) (σ : Nat → Nat → Int32) (τ : Nat → Nat → Int64) (a1 : Int32) (A1 : Int) (t1 : a1.toInt = A1) (hI2 : jI2 σ) (hI16 : jI16 σ) (hI18 : jI18 σ) (hI22 : jI22 σ) (hI31 : jI31 σ) (hI38 : jI38 σ) (hI47 : jI47 σ) (hI26 : jI26 σ) (hs_jN67 : jN67 σ) (hs_jBl : jBl σ) (hs_jKb : jKb σ) (hs_jKh : jKh σ) (hs_jKg : jKg σ) (hs_jNz : jNz σ) (hs_jKh : jKh σ) : jM l yX11_puts cX11_puts 6 (some .int) ({ frames := 6, cells := 0, slots := 0, locals := 162 }) D cI cL ad zz [.ref (ad 0), .int a1] σ τ (fun r σ' τ' => τ = τ' ∧ (∀ i : Nat, (i < 20 ∨ 21 < i) ∧ (i < 24 ∨ 25 < i) ∧ (i < 27 ∨ 37 < i) → σ' i = σ i) ∧ (∀ k : Nat, (k < 8 ∨ 8 < k) ∧ (k < 9 ∨ 9 < k) ∧ (k < 10 ∨ 10 < k) ∧ (k < 11 ∨ 11 < k) ∧ (k < 12 ∨ 12 < k) → σ' 31 k = σ 31 k) ∧ (jI31 σ') ∧ (jN67 σ') ∧ (jBl σ') ∧ (jKb σ') ∧ (jKh σ') ∧ (jKg σ') ∧ (jNz σ') ∧ (jKh σ') ∧ (((∀ j : Nat, jPl j → jR9 (σ 3 j)) → jOk (σ 3) → jqbN (σ 48) (σ 47 0).toInt → (∀ r : Int, 0 ≤ r → r < (σ 38 0).toInt → jTd (σ 40 r.toNat).toInt 0 ≤ 3) → jqPu (r : Int32).toInt (0 ≤ A1 ∧ A1 < (σ 38 0).toInt) ((σ 39 (A1).toNat).toInt = 2 ∧ 8 < (σ 16 1).toInt - (σ 47 0).toInt) (jcEd σ) (jcPv σ (A1)))) ∧ True) := by
  refine jM.of hJ (by decide +kernel) (nt := .int) rfl (Nat.le_of_ble_eq_true rfl) ?_
  intro p e s m args below meth c Q ls hC hret hl hP
  obtain ⟨hx, hb, hr, hml, hown, hts, hK, -, hlocks, hZ⟩ := hC
  have hown : s.vm.findClass RX11 = some m.cls := hown
  have hS : va_S (jA ad) s.heap s.heap [] := va_S.rf
  have hA : ∀ q, jA ad q → jA ad q := fun _ h => h
  have hl : lv_has ls 6 [(0, .ref (ad 0)), (1, .int a1)] := hl
  have g1 := jrg t1
  obtain ⟨i1, i2, i3, i4, i5, w6, w7⟩ : (0 ≤ (σ 2 0).toInt ∧ (σ 2 0).toInt ≤ 4) ∧ (0 ≤ (σ 2 1).toInt ∧ (σ 2 1).toInt ≤ 3) ∧ (0 ≤ (σ 2 2).toInt) ∧ (0 ≤ (σ 2 3).toInt) ∧ ((σ 2 2).toInt + (σ 2 3).toInt ≤ 40) ∧ (∀ k : Nat, k < 40 → 0 ≤ (σ 6 k).toInt ∧ (σ 6 k).toInt ≤ 67) ∧ (∀ k : Nat, k < 4 → 0 ≤ (σ 5 k).toInt ∧ (σ 5 k).toInt ≤ 20) := id hI2
  obtain ⟨i8, i9, i10, w11⟩ : (1 ≤ (σ 16 0).toInt ∧ (σ 16 0).toInt ≤ 8) ∧ (1 ≤ (σ 16 1).toInt ∧ (σ 16 1).toInt ≤ 12) ∧ (0 ≤ (σ 16 2).toInt ∧ (σ 16 2).toInt ≤ 999) ∧ (∀ k : Nat, k < 8 → 0 ≤ (σ 17 k).toInt ∧ (σ 17 k).toInt ≤ 3) := id hI16
  obtain ⟨i12, i13, i14, i15, w16, w17, w18⟩ : (0 ≤ (σ 31 8).toInt ∧ (σ 31 8).toInt ≤ 350) ∧ (0 ≤ (σ 31 10).toInt ∧ (σ 31 10).toInt ≤ 12) ∧ (0 ≤ (σ 31 11).toInt ∧ (σ 31 11).toInt ≤ 8) ∧ ((σ 31 10).toInt + (σ 31 11).toInt ≤ 12) ∧ (∀ k : Nat, k < 1400 → (-1) ≤ (σ 33 k).toInt ∧ (σ 33 k).toInt ≤ 350) ∧ (∀ k : Nat, k < 3159 → (-1) ≤ (σ 35 k).toInt ∧ (σ 35 k).toInt ≤ 3) ∧ (∀ k : Nat, k < 1024 → 0 ≤ (σ 36 k).toInt ∧ (σ 36 k).toInt ≤ 349) := id hI31
  obtain ⟨i19, i20, w21⟩ : (0 ≤ (σ 38 0).toInt ∧ (σ 38 0).toInt ≤ 20) ∧ (0 ≤ (σ 38 1).toInt ∧ (σ 38 1).toInt ≤ 1000) ∧ (∀ k : Nat, k < 20 → 0 ≤ (σ 39 k).toInt ∧ (σ 39 k).toInt ≤ 6) := id hI38
  obtain ⟨i22, w23, w24⟩ : (0 ≤ (σ 47 0).toInt ∧ (σ 47 0).toInt ≤ 12) ∧ (∀ k : Nat, k < 12 → 0 ≤ (σ 48 k).toInt ∧ (σ 48 k).toInt ≤ 3) ∧ (∀ k : Nat, k < 12 → 0 ≤ (σ 49 k).toInt ∧ (σ 49 k).toInt ≤ 1) := id hI47
  refine lv_aload_n hx hb dX11_puts_0 rfl (lv_at hl 0 rfl) ?_
  refine lv_iload_n hx hb dX11_puts_1 rfl (lv_at hl 1 rfl) ?_
  refine jcallV (As := [.int a1]) (rest := []) ⟨hx, hb, hml, hown, hts⟩ hK hP hA hS hZ (c_X11_noRule l D cI cL ad zz hJ σ τ a1 (A1) t1 hI38) cw_RX11_177 (jc_0 cI cL ad σ τ) rfl ⟨Nat.le_of_ble_eq_true rfl, Nat.le_of_ble_eq_true rfl⟩ rfl rfl rfl hl.1 rfl (Nat.le_of_ble_eq_true rfl) dX11_puts_2 ⟨Nat.zero_le _, Nat.zero_le _⟩ (fun r26 σ25 τ25 H locs h25 hP hS => ?_)
  obtain ⟨⟨rfl, rfl⟩, h25⟩ := h25
  rcases h25 with h27 | h28
  · obtain ⟨q30, k29⟩ := h27
    have q30 := q30.symm
    subst q30
    refine lv_if_eq (tgt := 10) hx hb dX11_puts_5 (of_decide_eq_true rfl) (fun c => absurd c (of_decide_eq_true rfl)) (fun _ => ?_)
    refine lv_iconst (v := (-1)) hx hb dX11_puts_8 (of_decide_eq_true rfl) ?_
    exact hret (-1) σ τ _ _ _ _ rfl ⟨rfl, (fun _ _ => rfl), (fun _ _ => rfl), hI31, hs_jN67, hs_jBl, hs_jKb, hs_jKh, hs_jKg, hs_jNz, hs_jKh, (fun al ok nt rd => Or.inl ⟨fun z => by omega, by decide⟩), trivial⟩ hP hS dX11_puts_9
  · obtain ⟨q32, k31⟩ := h28
    have q32 := q32.symm
    subst q32
    refine lv_if_eq (tgt := 10) hx hb dX11_puts_5 (of_decide_eq_true rfl) (fun _ => ?_) (fun c => absurd (of_decide_eq_true rfl) c)
    refine lv_aload_n hx hb dX11_puts_10 rfl (lv_at hl 0 rfl) ?_
    refine va_get (D := D) hx hb hts inlX11 hown hK hP 0 (jc_0 cI cL ad σ τ) rfl 9 (of_decide_eq_true rfl) (hts _ kw_3_1) (fun _ h9 => h9) rfl dX11_puts_11 ?_
    refine va_get (D := D) hx hb hts inlX2 hown hK hP 47 (jc_47 cI cL ad σ τ) rfl 0 (of_decide_eq_true rfl) (hts _ kw_13_11) (fun _ h9 => h9) rfl dX11_puts_14 ?_
    refine lv_istore_n (lv' := [(2, .int (σ 47 0)), (0, .ref (ad 0)), (1, .int a1)]) hx hb dX11_puts_17 rfl hl (of_decide_eq_true rfl) rfl (fun ls hl => ?_)
    refine lv_aload_n hx hb dX11_puts_18 rfl (lv_at hl 1 rfl) ?_
    refine va_get (D := D) hx hb hts inlX11 hown hK hP 0 (jc_0 cI cL ad σ τ) rfl 9 (of_decide_eq_true rfl) (hts _ kw_3_1) (fun _ h9 => h9) rfl dX11_puts_19 ?_
    refine lv_aload_n hx hb dX11_puts_22 rfl (lv_at hl 1 rfl) ?_
    refine va_get (D := D) hx hb hts inlX11 hown hK hP 0 (jc_0 cI cL ad σ τ) rfl 9 (of_decide_eq_true rfl) (hts _ kw_3_1) (fun _ h9 => h9) rfl dX11_puts_23 ?_
    refine va_get (D := D) hx hb hts inlX2 hown hK hP 47 (jc_47 cI cL ad σ τ) rfl 0 (of_decide_eq_true rfl) (hts _ kw_13_11) (fun _ h9 => h9) rfl dX11_puts_26 ?_
    refine jcallV (As := [.int (σ 47 0)]) (rest := []) ⟨hx, hb, hml, hown, hts⟩ hK hP hA hS hZ (c_X2_outs_47 l D cI cL ad zz hJ σ τ (σ 47 0) ((σ 47 0).toInt) rfl hI47) cw_RX11_180 (jc_47 cI cL ad σ τ) rfl ⟨Nat.le_of_ble_eq_true rfl, Nat.le_of_ble_eq_true rfl⟩ rfl rfl rfl hl.1 rfl (Nat.le_of_ble_eq_true rfl) dX11_puts_29 ⟨Nat.zero_le _, Nat.zero_le _⟩ (fun r34 σ33 τ33 H locs h33 hP hS => ?_)
    obtain ⟨⟨rfl, rfl⟩, w35, h33⟩ := h33
    have h36 := h33
    obtain ⟨q38, k37⟩ := h36
    refine lv_istore_n (lv' := [(3, .int r34), (2, .int (σ 47 0)), (0, .ref (ad 0)), (1, .int a1)]) hx hb dX11_puts_32 rfl hl (of_decide_eq_true rfl) rfl (fun ls hl => ?_)
    refine lv_aload_n hx hb dX11_puts_33 rfl (lv_at hl 2 rfl) ?_
    refine va_get (D := D) hx hb hts inlX11 hown hK hP 0 (jc_0 cI cL ad σ τ) rfl 7 (of_decide_eq_true rfl) (hts _ kw_2_17) (fun _ h9 => h9) rfl dX11_puts_34 ?_
    refine lv_iload_n hx hb dX11_puts_37 rfl (lv_at hl 3 rfl) ?_
    refine jcallV (As := [.int a1]) (rest := []) ⟨hx, hb, hml, hown, hts⟩ hK hP hA hS hZ (c_X8_kindOf_e l D cI cL ad zz hJ σ τ a1 (A1) t1 hI38) cw_RX11_183 (jc_38 cI cL ad σ τ) rfl ⟨Nat.le_of_ble_eq_true rfl, Nat.le_of_ble_eq_true rfl⟩ rfl rfl rfl hl.1 rfl (Nat.le_of_ble_eq_true rfl) dX11_puts_38 ⟨Nat.zero_le _, Nat.zero_le _⟩ (fun r40 σ39 τ39 H locs h39 hP hS => ?_)
    obtain ⟨⟨rfl, rfl⟩, h39⟩ := h39
    rcases h39 with h41 | h42
    · obtain ⟨q46, k43, k44, k45⟩ := h41
      have q47 : r40 = (σ 39 a1.toNatClampNeg) := q46.trans rfl
      have q47 := q47.symm
      subst q47
      refine lv_iconst (v := 2) hx hb dX11_puts_41 (of_decide_eq_true rfl) ?_
      refine lv_icmp_ne (tgt := 49) hx hb dX11_puts_42 (of_decide_eq_true rfl) (fun c48 => ?_) (fun c48 => ?_)
      · have kc48 := jne c48 rfl jz_2
        refine lv_iconst (v := 0) hx hb dX11_puts_49 (of_decide_eq_true rfl) ?_
        refine lv_istore (lv' := [(4, .int 0), (3, .int r34), (2, .int (σ 47 0)), (0, .ref (ad 0)), (1, .int a1)]) hx hb dX11_puts_50 hl (of_decide_eq_true rfl) rfl (fun ls hl => ?_)
        refine lv_iload hx hb dX11_puts_52 (lv_at hl 0 rfl) ?_
        refine lv_if_eq (tgt := 74) hx hb dX11_puts_54 (of_decide_eq_true rfl) (fun _ => ?_) (fun c => absurd (of_decide_eq_true rfl) c)
        refine lv_aload_n hx hb dX11_puts_74 rfl (lv_at hl 3 rfl) ?_
        refine va_get (D := D) hx hb hts inlX11 hown hK hP 0 (jc_0 cI cL ad σ τ) rfl 9 (of_decide_eq_true rfl) (hts _ kw_3_1) (fun _ h9 => h9) rfl dX11_puts_75 ?_
        refine lv_iload_n hx hb dX11_puts_78 rfl (lv_at hl 2 rfl) ?_
        refine lv_aload_n hx hb dX11_puts_79 rfl (lv_at hl 3 rfl) ?_
        refine va_get (D := D) hx hb hts inlX11 hown hK hP 0 (jc_0 cI cL ad σ τ) rfl 0 (of_decide_eq_true rfl) (hts _ kw_1_16) (fun _ h9 => h9) rfl dX11_puts_80 ?_
        refine jcallV (As := [.int (σ 47 0), .ref (ad 2)]) (rest := []) ⟨hx, hb, hml, hown, hts⟩ hK hP hA hS hZ (c_X2_attackAhead_47 l D cI cL ad zz hJ σ τ (σ 47 0) ((σ 47 0).toInt) rfl hI2 hI47) cw_RX11_186 (jc_47 cI cL ad σ τ) rfl ⟨Nat.le_of_ble_eq_true rfl, Nat.le_of_ble_eq_true rfl⟩ rfl rfl rfl hl.1 rfl (Nat.le_of_ble_eq_true rfl) dX11_puts_83 ⟨Nat.zero_le _, Nat.zero_le _⟩ (fun r50 σ49 τ49 H locs h49 hP hS => ?_)
        obtain ⟨⟨rfl, rfl⟩, w51, w52, h49⟩ := h49
        have h53 := h49
        obtain ⟨q55, k54⟩ := h53
        refine lv_istore (lv' := [(5, .int r50), (4, .int 0), (3, .int r34), (2, .int (σ 47 0)), (0, .ref (ad 0)), (1, .int a1)]) hx hb dX11_puts_86 hl (of_decide_eq_true rfl) rfl (fun ls hl => ?_)
        refine lv_aload_n hx hb dX11_puts_88 rfl (lv_at hl 4 rfl) ?_
        refine va_get (D := D) hx hb hts inlX11 hown hK hP 0 (jc_0 cI cL ad σ τ) rfl 2 (of_decide_eq_true rfl) (hts _ kw_2_0) (fun _ h9 => h9) rfl dX11_puts_89 ?_
        refine lv_iload_n hx hb dX11_puts_92 rfl (lv_at hl 3 rfl) ?_
        refine lv_iload_n hx hb dX11_puts_93 rfl (lv_at hl 2 rfl) ?_
        refine lv_iload hx hb dX11_puts_94 (lv_at hl 0 rfl) ?_
        refine jcallV (As := [.int (σ 47 0), .int r34, .int r50]) (rest := []) ⟨hx, hb, hml, hown, hts⟩ hK hP hA hS hZ (c_X6_ended_16 l D cI cL ad zz hJ σ τ (σ 47 0) ((σ 47 0).toInt) rfl r34 (r34.toInt) rfl r50 (r50.toInt) rfl) cw_RX11_190 (jc_16 cI cL ad σ τ) rfl ⟨Nat.le_of_ble_eq_true rfl, Nat.le_of_ble_eq_true rfl⟩ rfl rfl rfl hl.1 rfl (Nat.le_of_ble_eq_true rfl) dX11_puts_96 ⟨Nat.zero_le _, Nat.zero_le _⟩ (fun r57 σ56 τ56 H locs h56 hP hS => ?_)
        obtain ⟨⟨rfl, rfl⟩, w58, h56⟩ := h56
        refine lv_if_eq (tgt := 105) hx hb dX11_puts_99 (of_decide_eq_true rfl) (fun c59 => ?_) (fun c59 => ?_)
        · have kc59 := jeq c59 rfl jz_0
          refine lv_aload_n hx hb dX11_puts_105 rfl (lv_at hl 4 rfl) ?_
          refine va_get (D := D) hx hb hts inlX11 hown hK hP 0 (jc_0 cI cL ad σ τ) rfl 5 (of_decide_eq_true rfl) (hts _ kw_2_9) (fun _ h9 => h9) rfl dX11_puts_106 ?_
          refine lv_aload_n hx hb dX11_puts_109 rfl (lv_at hl 4 rfl) ?_
          refine va_get (D := D) hx hb hts inlX11 hown hK hP 0 (jc_0 cI cL ad σ τ) rfl 0 (of_decide_eq_true rfl) (hts _ kw_1_16) (fun _ h9 => h9) rfl dX11_puts_110 ?_
          refine va_get (D := D) hx hb hts inlX4 hown hK hP 2 (jc_2 cI cL ad σ τ) rfl 1 (of_decide_eq_true rfl) (hts _ kw_12_8) (fun _ h9 => h9) rfl dX11_puts_113 ?_
          exact by
           refine jcallVv (As := [.int (σ 2 1)]) (rest := []) ⟨hx, hb, hml, hown, hts⟩ hK hP hA hS hZ (c_X5_lay_26 l D cI cL ad zz hJ σ τ (σ 2 1) ((σ 2 1).toInt) rfl (by omega)) cw_RX11_156 (jc_26 cI cL ad σ τ) rfl ⟨Nat.le_of_ble_eq_true rfl, Nat.le_of_ble_eq_true rfl⟩ rfl rfl rfl hl.1 rfl (Nat.le_of_ble_eq_true rfl) dX11_puts_116 ⟨Nat.zero_le _, Nat.zero_le _⟩ (fun σ60 τ60 H locs h60 hP hS => ?_)
           obtain ⟨rfl, f62, w63, h60⟩ := h60
           refine lv_iload hx hb dX11_puts_119 (lv_at hl 1 rfl) ?_
           refine lv_if_eq (tgt := 135) hx hb dX11_puts_121 (of_decide_eq_true rfl) (fun _ => ?_) (fun c => absurd (of_decide_eq_true rfl) c)
           refine lv_aload_n hx hb dX11_puts_135 rfl (lv_at hl 4 rfl) ?_
           refine va_get (D := D) hx hb hts inlX11 hown hK hP 0 (jc_0 cI cL ad σ60 τ) rfl 8 (of_decide_eq_true rfl) (hts _ kw_2_21) (fun _ h9 => h9) rfl dX11_puts_136 ?_
           refine lv_iload_n hx hb dX11_puts_139 rfl (lv_at hl 5 rfl) ?_
           refine lv_iload_n hx hb dX11_puts_140 rfl (lv_at hl 3 rfl) ?_
           refine lv_iload_n hx hb dX11_puts_141 rfl (lv_at hl 2 rfl) ?_
           refine lv_iload hx hb dX11_puts_142 (lv_at hl 0 rfl) ?_
           have I65 : jI16 σ60 := jI16_fr (congrFun (f62 16 (of_decide_eq_true rfl)) 0) (congrFun (f62 16 (of_decide_eq_true rfl)) 1) (congrFun (f62 16 (of_decide_eq_true rfl)) 2) (f62 17 (of_decide_eq_true rfl)) hI16
           have I66 : jI18 σ60 := jI18_fr (congrFun (f62 18 (of_decide_eq_true rfl)) 0) (f62 19 (of_decide_eq_true rfl)) hI18
           have I67 : jI22 σ60 := jI22_fr (congrFun (f62 22 (of_decide_eq_true rfl)) 0) (f62 23 (of_decide_eq_true rfl)) hI22
           have I68 : jI26 σ60 := jI26_fr (congrFun (f62 26 (of_decide_eq_true rfl)) 6) hI26
           have I69 : jI31 σ60 := jI31_fr (congrFun (f62 31 (of_decide_eq_true rfl)) 8) (congrFun (f62 31 (of_decide_eq_true rfl)) 10) (congrFun (f62 31 (of_decide_eq_true rfl)) 11) (f62 33 (of_decide_eq_true rfl)) (f62 35 (of_decide_eq_true rfl)) (f62 36 (of_decide_eq_true rfl)) hI31
           have I70 : jI38 σ60 := jI38_fr (congrFun (f62 38 (of_decide_eq_true rfl)) 0) (congrFun (f62 38 (of_decide_eq_true rfl)) 1) (f62 39 (of_decide_eq_true rfl)) hI38
           have p71 : jN67 σ60 := jN67.fr (f62 24 (of_decide_eq_true rfl)) hs_jN67
           have p72 : jBl σ60 := jBl.fr (congrFun (f62 22 (of_decide_eq_true rfl)) 0) (congrFun (f62 22 (of_decide_eq_true rfl)) 1) (f62 23 (of_decide_eq_true rfl)) (congrFun (f62 26 (of_decide_eq_true rfl)) 6) (congrFun (f62 26 (of_decide_eq_true rfl)) 7) (f62 29 (of_decide_eq_true rfl)) (f62 30 (of_decide_eq_true rfl)) hs_jBl
           have p73 : jKh σ60 := jKh.fr (congrFun (f62 31 (of_decide_eq_true rfl)) 8) (f62 32 (of_decide_eq_true rfl)) (f62 36 (of_decide_eq_true rfl)) (f62 37 (of_decide_eq_true rfl)) hs_jKh
           exact by
            refine jcallV (As := [.int a1, .int (σ 47 0), .int r34, .int r50]) (rest := []) ⟨hx, hb, hml, hown, hts⟩ hK hP hA hS hZ (c_X3_putOn_43 l D cI cL ad zz hJ σ60 τ a1 (A1) t1 (σ 47 0) ((σ 47 0).toInt) rfl r34 (r34.toInt) rfl r50 (r50.toInt) rfl I65 I66 I67 I68 I69 I70 p71 p72 p73 (by omega) (by omega) (by omega)) cw_RX11_197 (jc_43 cI cL ad σ60 τ) rfl ⟨Nat.le_of_ble_eq_true rfl, Nat.le_of_ble_eq_true rfl⟩ rfl rfl rfl hl.1 rfl (Nat.le_of_ble_eq_true rfl) dX11_puts_144 ⟨Nat.zero_le _, Nat.zero_le _⟩ (fun r75 σ74 τ74 H locs h74 hP hS => ?_)
            obtain ⟨rfl, f76, p77, p78, p79, w80, h74⟩ := h74
            have h82 := h74
            obtain ⟨q84, k83⟩ := h82
            have I85 : jI31 σ74 := jI31_fr (congrFun (f76 31 (of_decide_eq_true rfl)) 8) (congrFun (f76 31 (of_decide_eq_true rfl)) 10) (congrFun (f76 31 (of_decide_eq_true rfl)) 11) (f76 33 (of_decide_eq_true rfl)) (f76 35 (of_decide_eq_true rfl)) (f76 36 (of_decide_eq_true rfl)) I69
            have p86 : jKb σ74 := jKb.fr ((congrFun (f76 31 (of_decide_eq_true rfl)) 8).trans (congrFun (f62 31 (of_decide_eq_true rfl)) 8)) ((congrFun (f76 31 (of_decide_eq_true rfl)) 11).trans (congrFun (f62 31 (of_decide_eq_true rfl)) 11)) ((f76 32 (of_decide_eq_true rfl)).trans (f62 32 (of_decide_eq_true rfl))) hs_jKb
            have p87 : jKg σ74 := jKg.fr ((congrFun (f76 31 (of_decide_eq_true rfl)) 8).trans (congrFun (f62 31 (of_decide_eq_true rfl)) 8)) ((congrFun (f76 31 (of_decide_eq_true rfl)) 9).trans (congrFun (f62 31 (of_decide_eq_true rfl)) 9)) ((congrFun (f76 31 (of_decide_eq_true rfl)) 11).trans (congrFun (f62 31 (of_decide_eq_true rfl)) 11)) ((congrFun (f76 31 (of_decide_eq_true rfl)) 12).trans (congrFun (f62 31 (of_decide_eq_true rfl)) 12)) ((f76 32 (of_decide_eq_true rfl)).trans (f62 32 (of_decide_eq_true rfl))) ((f76 33 (of_decide_eq_true rfl)).trans (f62 33 (of_decide_eq_true rfl))) hs_jKg
            have p88 : jNz σ74 := jNz.fr ((f76 34 (of_decide_eq_true rfl)).trans (f62 34 (of_decide_eq_true rfl))) hs_jNz
            have z89 : (σ74 16 0).toInt = (σ 16 0).toInt := (congrArg Int32.toInt (show σ74 16 0 = (σ 16 0) from ((congrFun (f76 16 (of_decide_eq_true rfl)) 0).trans (congrFun (f62 16 (of_decide_eq_true rfl)) 0))))
            have z90 : (σ74 16 1).toInt = (σ 16 1).toInt := (congrArg Int32.toInt (show σ74 16 1 = (σ 16 1) from ((congrFun (f76 16 (of_decide_eq_true rfl)) 1).trans (congrFun (f62 16 (of_decide_eq_true rfl)) 1))))
            have z92 : (σ60 16 0).toInt = (σ 16 0).toInt := (congrArg Int32.toInt (show σ60 16 0 = (σ 16 0) from (congrFun (f62 16 (of_decide_eq_true rfl)) 0)))
            have z93 : (σ60 16 1).toInt = (σ 16 1).toInt := (congrArg Int32.toInt (show σ60 16 1 = (σ 16 1) from (congrFun (f62 16 (of_decide_eq_true rfl)) 1)))
            exact by exact hret r75 σ74 τ _ _ _ _ rfl ⟨rfl, (fun i hi => ((f76 i (imp_133 i hi)).trans (f62 i (imp_134 i hi)))), (fun i hi => ((congrFun (f76 31 (of_decide_eq_true rfl)) i).trans (congrFun (f62 31 (of_decide_eq_true rfl)) i))), I85, p77, p78, p86, p79, p87, p88, p79, (fun al ok nt rd => Or.inr ⟨⟨by omega, by omega⟩, Or.inr ⟨(fun z => by have z1 := z.1; rw [(show (σ 39 (A1).toNat).toInt = (σ 39 a1.toNatClampNeg).toInt from by rw [jnc (show a1.toInt = A1 from t1)])] at z1; omega), Or.inr (by have ka := w51 (by omega) (by omega) ok; have cw := w35 (by omega) (by omega); have ex := (w58.1 (by first | rfl | omega)); have ex1 := ex.1; have ex2 := ex.2.1; have lw : jqLw σ σ60 (σ 2 1).toInt := ⟨w63, (show jGb σ60 = jGb σ from by unfold jGb; rw [show σ60 23 = σ 23 from (f62 23 (of_decide_eq_true rfl)), show σ60 22 0 = σ 22 0 from (congrFun (f62 22 (of_decide_eq_true rfl)) 0)]), ⟨(f62 16 (of_decide_eq_true rfl)), (f62 17 (of_decide_eq_true rfl)), (f62 18 (of_decide_eq_true rfl)), (f62 19 (of_decide_eq_true rfl))⟩, (f62 38 (of_decide_eq_true rfl)), (f62 39 (of_decide_eq_true rfl)), (f62 40 (of_decide_eq_true rfl)), (f62 41 (of_decide_eq_true rfl))⟩; have x9 := w80 (by omega) (by rw [lw.2.2.2.1]; omega) (by rw [lw.2.2.2.2.2.1]; exact rd _ (by omega) (by omega)) (jLd.r41 lw.1 (by omega) (by omega) ⟨al, w7⟩) (fun z z1 z2 => False.elim (by rw [lw.2.2.2.2.1, (show (σ 39 (A1).toNat).toInt = (σ 39 a1.toNatClampNeg).toInt from by rw [jnc (show a1.toInt = A1 from t1)])] at z; omega)) (by rw [lw.2.2.1.1]; omega) (by rw [lw.2.2.1.1]; omega) (by omega); have y9 := lw.pu (r := A1) (w := (r34 : Int32).toInt) (fun z hz => w11 z (by omega)) ka (w52 ok nt) (by omega) (by omega) (by omega) (by omega); refine ⟨fun z => z ⟨by omega, by omega, by rw [ka.fi]; exact jFi_mb.mpr ex.2.2⟩, ?_⟩; unfold jcPv; rw [← cw]; exact x9.trans y9)⟩⟩), trivial⟩ hP hS dX11_puts_147
        · have kc59 := jne c59 rfl jz_0
          refine lv_bipush (v := (-2)) hx hb dX11_puts_102 (of_decide_eq_true rfl) ?_
          exact by exact hret (-2) σ τ _ _ _ _ rfl ⟨rfl, (fun _ _ => rfl), (fun _ _ => rfl), hI31, hs_jN67, hs_jBl, hs_jKb, hs_jKh, hs_jKg, hs_jNz, hs_jKh, (fun al ok nt rd => Or.inr ⟨⟨by omega, by omega⟩, Or.inr ⟨(fun z => by have z1 := z.1; rw [(show (σ 39 (A1).toNat).toInt = (σ 39 a1.toNatClampNeg).toInt from by rw [jnc (show a1.toInt = A1 from t1)])] at z1; omega), Or.inl ⟨by have ka := w51 (by omega) (by omega) ok; have cw := w35 (by omega) (by omega); intro z; rw [ka.fi] at z; exact absurd (w58.2 (by omega) z.2.1 _ (jFi_mb.mp z.2.2).choose_spec) (by first | decide | (intro e; have e9 := congrArg Int32.toInt e; rw [jz_0] at e9; omega)), by decide⟩⟩⟩), trivial⟩ hP hS dX11_puts_104
      · have kc48 := jeq c48 rfl jz_2
        refine lv_iconst (v := 1) hx hb dX11_puts_45 (of_decide_eq_true rfl) ?_
        refine lv_goto (tgt := 50) hx hb dX11_puts_46 (of_decide_eq_true rfl) ?_
        refine lv_istore (lv' := [(4, .int 1), (3, .int r34), (2, .int (σ 47 0)), (0, .ref (ad 0)), (1, .int a1)]) hx hb dX11_puts_50 hl (of_decide_eq_true rfl) rfl (fun ls hl => ?_)
        refine lv_iload hx hb dX11_puts_52 (lv_at hl 0 rfl) ?_
        refine lv_if_eq (tgt := 74) hx hb dX11_puts_54 (of_decide_eq_true rfl) (fun c => absurd c (of_decide_eq_true rfl)) (fun _ => ?_)
        refine lv_aload_n hx hb dX11_puts_57 rfl (lv_at hl 3 rfl) ?_
        refine va_get (D := D) hx hb hts inlX11 hown hK hP 0 (jc_0 cI cL ad σ τ) rfl 2 (of_decide_eq_true rfl) (hts _ kw_2_0) (fun _ h9 => h9) rfl dX11_puts_58 ?_
        refine va_get (D := D) hx hb hts inlX6 hown hK hP 16 (jc_16 cI cL ad σ τ) rfl 1 (of_decide_eq_true rfl) (hts _ kw_20_5) (fun _ h9 => h9) rfl dX11_puts_61 ?_
        refine lv_iload_n hx hb dX11_puts_64 rfl (lv_at hl 2 rfl) ?_
        have g94 := jrg (rfl : (σ 16 1).toInt = (σ 16 1).toInt)
        have g95 := jrg (rfl : (σ 47 0).toInt = (σ 47 0).toInt)
        refine lv_isub hx hb dX11_puts_65 ?_
        refine lv_topi (fun x96 ex96 => ?_)
        exact by
         have tx96 : x96.toInt = (σ 16 1).toInt - (σ 47 0).toInt := (jsub ex96 rfl rfl (by omega) (by omega)).trans (by omega)
         refine lv_bipush (v := 8) hx hb dX11_puts_66 (of_decide_eq_true rfl) ?_
         refine lv_icmp_le (tgt := 74) hx hb dX11_puts_68 (of_decide_eq_true rfl) (fun c97 => ?_) (fun c97 => ?_)
         · have kc97 := jle c97 tx96 jz_8
           refine lv_aload_n hx hb dX11_puts_74 rfl (lv_at hl 3 rfl) ?_
           refine va_get (D := D) hx hb hts inlX11 hown hK hP 0 (jc_0 cI cL ad σ τ) rfl 9 (of_decide_eq_true rfl) (hts _ kw_3_1) (fun _ h9 => h9) rfl dX11_puts_75 ?_
           refine lv_iload_n hx hb dX11_puts_78 rfl (lv_at hl 2 rfl) ?_
           refine lv_aload_n hx hb dX11_puts_79 rfl (lv_at hl 3 rfl) ?_
           refine va_get (D := D) hx hb hts inlX11 hown hK hP 0 (jc_0 cI cL ad σ τ) rfl 0 (of_decide_eq_true rfl) (hts _ kw_1_16) (fun _ h9 => h9) rfl dX11_puts_80 ?_
           refine jcallV (As := [.int (σ 47 0), .ref (ad 2)]) (rest := []) ⟨hx, hb, hml, hown, hts⟩ hK hP hA hS hZ (c_X2_attackAhead_47 l D cI cL ad zz hJ σ τ (σ 47 0) ((σ 47 0).toInt) rfl hI2 hI47) cw_RX11_186 (jc_47 cI cL ad σ τ) rfl ⟨Nat.le_of_ble_eq_true rfl, Nat.le_of_ble_eq_true rfl⟩ rfl rfl rfl hl.1 rfl (Nat.le_of_ble_eq_true rfl) dX11_puts_83 ⟨Nat.zero_le _, Nat.zero_le _⟩ (fun r99 σ98 τ98 H locs h98 hP hS => ?_)
           obtain ⟨⟨rfl, rfl⟩, w100, w101, h98⟩ := h98
           have h102 := h98
           obtain ⟨q104, k103⟩ := h102
           refine lv_istore (lv' := [(5, .int r99), (4, .int 1), (3, .int r34), (2, .int (σ 47 0)), (0, .ref (ad 0)), (1, .int a1)]) hx hb dX11_puts_86 hl (of_decide_eq_true rfl) rfl (fun ls hl => ?_)
           refine lv_aload_n hx hb dX11_puts_88 rfl (lv_at hl 4 rfl) ?_
           refine va_get (D := D) hx hb hts inlX11 hown hK hP 0 (jc_0 cI cL ad σ τ) rfl 2 (of_decide_eq_true rfl) (hts _ kw_2_0) (fun _ h9 => h9) rfl dX11_puts_89 ?_
           refine lv_iload_n hx hb dX11_puts_92 rfl (lv_at hl 3 rfl) ?_
           refine lv_iload_n hx hb dX11_puts_93 rfl (lv_at hl 2 rfl) ?_
           refine lv_iload hx hb dX11_puts_94 (lv_at hl 0 rfl) ?_
           refine jcallV (As := [.int (σ 47 0), .int r34, .int r99]) (rest := []) ⟨hx, hb, hml, hown, hts⟩ hK hP hA hS hZ (c_X6_ended_16 l D cI cL ad zz hJ σ τ (σ 47 0) ((σ 47 0).toInt) rfl r34 (r34.toInt) rfl r99 (r99.toInt) rfl) cw_RX11_190 (jc_16 cI cL ad σ τ) rfl ⟨Nat.le_of_ble_eq_true rfl, Nat.le_of_ble_eq_true rfl⟩ rfl rfl rfl hl.1 rfl (Nat.le_of_ble_eq_true rfl) dX11_puts_96 ⟨Nat.zero_le _, Nat.zero_le _⟩ (fun r106 σ105 τ105 H locs h105 hP hS => ?_)
           obtain ⟨⟨rfl, rfl⟩, w107, h105⟩ := h105
           refine lv_if_eq (tgt := 105) hx hb dX11_puts_99 (of_decide_eq_true rfl) (fun c108 => ?_) (fun c108 => ?_)
           · have kc108 := jeq c108 rfl jz_0
             refine lv_aload_n hx hb dX11_puts_105 rfl (lv_at hl 4 rfl) ?_
             refine va_get (D := D) hx hb hts inlX11 hown hK hP 0 (jc_0 cI cL ad σ τ) rfl 5 (of_decide_eq_true rfl) (hts _ kw_2_9) (fun _ h9 => h9) rfl dX11_puts_106 ?_
             refine lv_aload_n hx hb dX11_puts_109 rfl (lv_at hl 4 rfl) ?_
             refine va_get (D := D) hx hb hts inlX11 hown hK hP 0 (jc_0 cI cL ad σ τ) rfl 0 (of_decide_eq_true rfl) (hts _ kw_1_16) (fun _ h9 => h9) rfl dX11_puts_110 ?_
             refine va_get (D := D) hx hb hts inlX4 hown hK hP 2 (jc_2 cI cL ad σ τ) rfl 1 (of_decide_eq_true rfl) (hts _ kw_12_8) (fun _ h9 => h9) rfl dX11_puts_113 ?_
             exact by
              refine jcallVv (As := [.int (σ 2 1)]) (rest := []) ⟨hx, hb, hml, hown, hts⟩ hK hP hA hS hZ (c_X5_lay_26 l D cI cL ad zz hJ σ τ (σ 2 1) ((σ 2 1).toInt) rfl (by omega)) cw_RX11_156 (jc_26 cI cL ad σ τ) rfl ⟨Nat.le_of_ble_eq_true rfl, Nat.le_of_ble_eq_true rfl⟩ rfl rfl rfl hl.1 rfl (Nat.le_of_ble_eq_true rfl) dX11_puts_116 ⟨Nat.zero_le _, Nat.zero_le _⟩ (fun σ109 τ109 H locs h109 hP hS => ?_)
              obtain ⟨rfl, f111, w112, h109⟩ := h109
              refine lv_iload hx hb dX11_puts_119 (lv_at hl 1 rfl) ?_
              refine lv_if_eq (tgt := 135) hx hb dX11_puts_121 (of_decide_eq_true rfl) (fun c => absurd c (of_decide_eq_true rfl)) (fun _ => ?_)
              refine lv_aload_n hx hb dX11_puts_124 rfl (lv_at hl 4 rfl) ?_
              refine va_get (D := D) hx hb hts inlX11 hown hK hP 0 (jc_0 cI cL ad σ109 τ) rfl 6 (of_decide_eq_true rfl) (hts _ kw_2_13) (fun _ h9 => h9) rfl dX11_puts_125 ?_
              refine lv_iload hx hb dX11_puts_128 (lv_at hl 0 rfl) ?_
              refine lv_iload_n hx hb dX11_puts_130 rfl (lv_at hl 3 rfl) ?_
              refine lv_iload_n hx hb dX11_puts_131 rfl (lv_at hl 2 rfl) ?_
              have I114 : jI16 σ109 := jI16_fr (congrFun (f111 16 (of_decide_eq_true rfl)) 0) (congrFun (f111 16 (of_decide_eq_true rfl)) 1) (congrFun (f111 16 (of_decide_eq_true rfl)) 2) (f111 17 (of_decide_eq_true rfl)) hI16
              have I115 : jI22 σ109 := jI22_fr (congrFun (f111 22 (of_decide_eq_true rfl)) 0) (f111 23 (of_decide_eq_true rfl)) hI22
              have I116 : jI31 σ109 := jI31_fr (congrFun (f111 31 (of_decide_eq_true rfl)) 8) (congrFun (f111 31 (of_decide_eq_true rfl)) 10) (congrFun (f111 31 (of_decide_eq_true rfl)) 11) (f111 33 (of_decide_eq_true rfl)) (f111 35 (of_decide_eq_true rfl)) (f111 36 (of_decide_eq_true rfl)) hI31
              have I117 : jI26 σ109 := jI26_fr (congrFun (f111 26 (of_decide_eq_true rfl)) 6) hI26
              have p118 : jN67 σ109 := jN67.fr (f111 24 (of_decide_eq_true rfl)) hs_jN67
              have p119 : jBl σ109 := jBl.fr (congrFun (f111 22 (of_decide_eq_true rfl)) 0) (congrFun (f111 22 (of_decide_eq_true rfl)) 1) (f111 23 (of_decide_eq_true rfl)) (congrFun (f111 26 (of_decide_eq_true rfl)) 6) (congrFun (f111 26 (of_decide_eq_true rfl)) 7) (f111 29 (of_decide_eq_true rfl)) (f111 30 (of_decide_eq_true rfl)) hs_jBl
              have p120 : jKb σ109 := jKb.fr (congrFun (f111 31 (of_decide_eq_true rfl)) 8) (congrFun (f111 31 (of_decide_eq_true rfl)) 11) (f111 32 (of_decide_eq_true rfl)) hs_jKb
              have p121 : jKh σ109 := jKh.fr (congrFun (f111 31 (of_decide_eq_true rfl)) 8) (f111 32 (of_decide_eq_true rfl)) (f111 36 (of_decide_eq_true rfl)) (f111 37 (of_decide_eq_true rfl)) hs_jKh
              have p122 : jKg σ109 := jKg.fr (congrFun (f111 31 (of_decide_eq_true rfl)) 8) (congrFun (f111 31 (of_decide_eq_true rfl)) 9) (congrFun (f111 31 (of_decide_eq_true rfl)) 11) (congrFun (f111 31 (of_decide_eq_true rfl)) 12) (f111 32 (of_decide_eq_true rfl)) (f111 33 (of_decide_eq_true rfl)) hs_jKg
              have p123 : jNz σ109 := jNz.fr (f111 34 (of_decide_eq_true rfl)) hs_jNz
              have z124 : (σ109 16 1).toInt = (σ 16 1).toInt := (congrArg Int32.toInt (show σ109 16 1 = (σ 16 1) from (congrFun (f111 16 (of_decide_eq_true rfl)) 1)))
              exact by
               refine jcallVv (As := [.int r99, .int (σ 47 0), .int r34]) (rest := []) ⟨hx, hb, hml, hown, hts⟩ hK hP hA hS hZ (c_X1_seek_31 l D cI cL ad zz hJ σ109 τ r99 (r99.toInt) rfl (σ 47 0) ((σ 47 0).toInt) rfl r34 (r34.toInt) rfl I114 I115 I116 I117 p118 p119 p120 p121 p122 p123 (by omega) (by omega) (by omega)) cw_RX11_193 (jc_31 cI cL ad σ109 τ) rfl ⟨Nat.le_of_ble_eq_true rfl, Nat.le_of_ble_eq_true rfl⟩ rfl rfl rfl hl.1 rfl (Nat.le_of_ble_eq_true rfl) dX11_puts_132 ⟨Nat.zero_le _, Nat.zero_le _⟩ (fun σ125 τ125 H locs h125 hP hS => ?_)
               obtain ⟨rfl, f127, f128, I129, p130, p131, p132, p133, p134, p135, w136, h125⟩ := h125
               obtain ⟨i138, i139, i140, i141, w142, w143, w144⟩ : (0 ≤ (σ125 31 8).toInt ∧ (σ125 31 8).toInt ≤ 350) ∧ (0 ≤ (σ125 31 10).toInt ∧ (σ125 31 10).toInt ≤ 12) ∧ (0 ≤ (σ125 31 11).toInt ∧ (σ125 31 11).toInt ≤ 8) ∧ ((σ125 31 10).toInt + (σ125 31 11).toInt ≤ 12) ∧ (∀ k : Nat, k < 1400 → (-1) ≤ (σ125 33 k).toInt ∧ (σ125 33 k).toInt ≤ 350) ∧ (∀ k : Nat, k < 3159 → (-1) ≤ (σ125 35 k).toInt ∧ (σ125 35 k).toInt ≤ 3) ∧ (∀ k : Nat, k < 1024 → 0 ≤ (σ125 36 k).toInt ∧ (σ125 36 k).toInt ≤ 349) := id I129
               obtain ⟨k145, k146, k147, k148, h125⟩ := h125
               refine lv_aload_n hx hb dX11_puts_135 rfl (lv_at hl 4 rfl) ?_
               refine va_get (D := D) hx hb hts inlX11 hown hK hP 0 (jc_0 cI cL ad σ125 τ) rfl 8 (of_decide_eq_true rfl) (hts _ kw_2_21) (fun _ h9 => h9) rfl dX11_puts_136 ?_
               refine lv_iload_n hx hb dX11_puts_139 rfl (lv_at hl 5 rfl) ?_
               refine lv_iload_n hx hb dX11_puts_140 rfl (lv_at hl 3 rfl) ?_
               refine lv_iload_n hx hb dX11_puts_141 rfl (lv_at hl 2 rfl) ?_
               refine lv_iload hx hb dX11_puts_142 (lv_at hl 0 rfl) ?_
               have I149 : jI16 σ125 := jI16_fr (congrFun (f127 16 (of_decide_eq_true rfl)) 0) (congrFun (f127 16 (of_decide_eq_true rfl)) 1) (congrFun (f127 16 (of_decide_eq_true rfl)) 2) (f127 17 (of_decide_eq_true rfl)) I114
               have I150 : jI18 σ125 := jI18_fr ((congrFun (f127 18 (of_decide_eq_true rfl)) 0).trans (congrFun (f111 18 (of_decide_eq_true rfl)) 0)) ((f127 19 (of_decide_eq_true rfl)).trans (f111 19 (of_decide_eq_true rfl))) hI18
               have I151 : jI22 σ125 := jI22_fr (congrFun (f127 22 (of_decide_eq_true rfl)) 0) (f127 23 (of_decide_eq_true rfl)) I115
               have I152 : jI26 σ125 := jI26_fr (congrFun (f127 26 (of_decide_eq_true rfl)) 6) I117
               have I153 : jI38 σ125 := jI38_fr ((congrFun (f127 38 (of_decide_eq_true rfl)) 0).trans (congrFun (f111 38 (of_decide_eq_true rfl)) 0)) ((congrFun (f127 38 (of_decide_eq_true rfl)) 1).trans (congrFun (f111 38 (of_decide_eq_true rfl)) 1)) ((f127 39 (of_decide_eq_true rfl)).trans (f111 39 (of_decide_eq_true rfl))) hI38
               exact by
                refine jcallV (As := [.int a1, .int (σ 47 0), .int r34, .int r99]) (rest := []) ⟨hx, hb, hml, hown, hts⟩ hK hP hA hS hZ (c_X3_putOn_43 l D cI cL ad zz hJ σ125 τ a1 (A1) t1 (σ 47 0) ((σ 47 0).toInt) rfl r34 (r34.toInt) rfl r99 (r99.toInt) rfl I149 I150 I151 I152 I129 I153 p130 p131 p133 (by omega) (by omega) (by omega)) cw_RX11_197 (jc_43 cI cL ad σ125 τ) rfl ⟨Nat.le_of_ble_eq_true rfl, Nat.le_of_ble_eq_true rfl⟩ rfl rfl rfl hl.1 rfl (Nat.le_of_ble_eq_true rfl) dX11_puts_144 ⟨Nat.zero_le _, Nat.zero_le _⟩ (fun r155 σ154 τ154 H locs h154 hP hS => ?_)
                obtain ⟨rfl, f156, p157, p158, p159, w160, h154⟩ := h154
                have h162 := h154
                obtain ⟨q164, k163⟩ := h162
                have I165 : jI31 σ154 := jI31_fr (congrFun (f156 31 (of_decide_eq_true rfl)) 8) (congrFun (f156 31 (of_decide_eq_true rfl)) 10) (congrFun (f156 31 (of_decide_eq_true rfl)) 11) (f156 33 (of_decide_eq_true rfl)) (f156 35 (of_decide_eq_true rfl)) (f156 36 (of_decide_eq_true rfl)) I129
                have p166 : jKb σ154 := jKb.fr (congrFun (f156 31 (of_decide_eq_true rfl)) 8) (congrFun (f156 31 (of_decide_eq_true rfl)) 11) (f156 32 (of_decide_eq_true rfl)) p132
                have p167 : jKg σ154 := jKg.fr (congrFun (f156 31 (of_decide_eq_true rfl)) 8) (congrFun (f156 31 (of_decide_eq_true rfl)) 9) (congrFun (f156 31 (of_decide_eq_true rfl)) 11) (congrFun (f156 31 (of_decide_eq_true rfl)) 12) (f156 32 (of_decide_eq_true rfl)) (f156 33 (of_decide_eq_true rfl)) p134
                have p168 : jNz σ154 := jNz.fr (f156 34 (of_decide_eq_true rfl)) p135
                have z169 : (σ154 16 0).toInt = (σ 16 0).toInt := (congrArg Int32.toInt (show σ154 16 0 = (σ 16 0) from ((congrFun (f156 16 (of_decide_eq_true rfl)) 0).trans ((congrFun (f127 16 (of_decide_eq_true rfl)) 0).trans (congrFun (f111 16 (of_decide_eq_true rfl)) 0)))))
                have z170 : (σ154 16 1).toInt = (σ 16 1).toInt := (congrArg Int32.toInt (show σ154 16 1 = (σ 16 1) from ((congrFun (f156 16 (of_decide_eq_true rfl)) 1).trans ((congrFun (f127 16 (of_decide_eq_true rfl)) 1).trans (congrFun (f111 16 (of_decide_eq_true rfl)) 1)))))
                have z172 : (σ125 16 0).toInt = (σ 16 0).toInt := (congrArg Int32.toInt (show σ125 16 0 = (σ 16 0) from ((congrFun (f127 16 (of_decide_eq_true rfl)) 0).trans (congrFun (f111 16 (of_decide_eq_true rfl)) 0))))
                have z173 : (σ125 16 1).toInt = (σ 16 1).toInt := (congrArg Int32.toInt (show σ125 16 1 = (σ 16 1) from ((congrFun (f127 16 (of_decide_eq_true rfl)) 1).trans (congrFun (f111 16 (of_decide_eq_true rfl)) 1))))
                exact by exact hret r155 σ154 τ _ _ _ _ rfl ⟨rfl, (fun i hi => ((f156 i (imp_133 i hi)).trans ((f127 i (imp_135 i hi)).trans (f111 i (imp_134 i hi))))), (fun i hi => ((congrFun (f156 31 (of_decide_eq_true rfl)) i).trans ((f128 i hi).trans (congrFun (f111 31 (of_decide_eq_true rfl)) i)))), I165, p157, p158, p166, p159, p167, p168, p159, (fun al ok nt rd => Or.inr ⟨⟨by omega, by omega⟩, Or.inr ⟨(fun z => by have z1 := z.1; rw [(show (σ 39 (A1).toNat).toInt = (σ 39 a1.toNatClampNeg).toInt from by rw [jnc (show a1.toInt = A1 from t1)])] at z1; omega), Or.inr (by have ka := w100 (by omega) (by omega) ok; have cw := w35 (by omega) (by omega); have ex := (w107.1 (by first | rfl | omega)); have ex1 := ex.1; have ex2 := ex.2.1; have lw : jqLw σ σ125 (σ 2 1).toInt := ⟨(by rw [show σ125 27 = σ109 27 from (f127 27 (of_decide_eq_true rfl)), show σ125 28 = σ109 28 from (f127 28 (of_decide_eq_true rfl))]; exact w112), (show jGb σ125 = jGb σ from by unfold jGb; rw [show σ125 23 = σ 23 from ((f127 23 (of_decide_eq_true rfl)).trans (f111 23 (of_decide_eq_true rfl))), show σ125 22 0 = σ 22 0 from ((congrFun (f127 22 (of_decide_eq_true rfl)) 0).trans (congrFun (f111 22 (of_decide_eq_true rfl)) 0))]), ⟨((f127 16 (of_decide_eq_true rfl)).trans (f111 16 (of_decide_eq_true rfl))), ((f127 17 (of_decide_eq_true rfl)).trans (f111 17 (of_decide_eq_true rfl))), ((f127 18 (of_decide_eq_true rfl)).trans (f111 18 (of_decide_eq_true rfl))), ((f127 19 (of_decide_eq_true rfl)).trans (f111 19 (of_decide_eq_true rfl)))⟩, ((f127 38 (of_decide_eq_true rfl)).trans (f111 38 (of_decide_eq_true rfl))), ((f127 39 (of_decide_eq_true rfl)).trans (f111 39 (of_decide_eq_true rfl))), ((f127 40 (of_decide_eq_true rfl)).trans (f111 40 (of_decide_eq_true rfl))), ((f127 41 (of_decide_eq_true rfl)).trans (f111 41 (of_decide_eq_true rfl)))⟩; have x9 := w160 (by omega) (by rw [lw.2.2.2.1]; omega) (by rw [lw.2.2.2.2.2.1]; exact rd _ (by omega) (by omega)) (jLd.r41 lw.1 (by omega) (by omega) ⟨al, w7⟩) (fun z z1 z2 => (jqGs.root (((w136).1 (w101 ok nt) (jLd.r41 w112 (by omega) (by omega) ⟨al, w7⟩)).self (f127 27 (of_decide_eq_true rfl)) (f127 28 (of_decide_eq_true rfl)) (f127 23 (of_decide_eq_true rfl)) (congrFun (f127 22 (of_decide_eq_true rfl)) 0) (f127 17 (of_decide_eq_true rfl)) (congrFun (f127 16 (of_decide_eq_true rfl)) 0) (congrFun (f127 16 (of_decide_eq_true rfl)) 2)) (jKg.fr (σ := σ154) (σ' := σ125) ((congrFun (f156 31 (of_decide_eq_true rfl)) 8)).symm ((congrFun (f156 31 (of_decide_eq_true rfl)) 9)).symm ((congrFun (f156 31 (of_decide_eq_true rfl)) 11)).symm ((congrFun (f156 31 (of_decide_eq_true rfl)) 12)).symm ((f156 32 (of_decide_eq_true rfl))).symm ((f156 33 (of_decide_eq_true rfl))).symm p167) (w101 ok nt) (Int32.toInt_inj.mp (by omega)) (by rw [show σ125 22 1 = σ109 22 1 from (congrFun (f127 22 (of_decide_eq_true rfl)) 1)]; exact (w136).2) (by rw [(show jGb σ125 = jGb σ from by unfold jGb; rw [show σ125 23 = σ 23 from ((f127 23 (of_decide_eq_true rfl)).trans (f111 23 (of_decide_eq_true rfl))), show σ125 22 0 = σ 22 0 from ((congrFun (f127 22 (of_decide_eq_true rfl)) 0).trans (congrFun (f111 22 (of_decide_eq_true rfl)) 0))]), show σ125 22 1 = σ 22 1 from ((congrFun (f127 22 (of_decide_eq_true rfl)) 1).trans (congrFun (f111 22 (of_decide_eq_true rfl)) 1))]; exact hs_jBl.1) (by omega) (by omega) (by omega) (by omega) (by omega))) (by rw [lw.2.2.1.1]; omega) (by rw [lw.2.2.1.1]; omega) (by omega); have y9 := lw.pu (r := A1) (w := (r34 : Int32).toInt) (fun z hz => w11 z (by omega)) ka (w101 ok nt) (by omega) (by omega) (by omega) (by omega); refine ⟨fun z => z ⟨by omega, by omega, by rw [ka.fi]; exact jFi_mb.mpr ex.2.2⟩, ?_⟩; unfold jcPv; rw [← cw]; exact x9.trans y9)⟩⟩), trivial⟩ hP hS dX11_puts_147
           · have kc108 := jne c108 rfl jz_0
             refine lv_bipush (v := (-2)) hx hb dX11_puts_102 (of_decide_eq_true rfl) ?_
             exact by exact hret (-2) σ τ _ _ _ _ rfl ⟨rfl, (fun _ _ => rfl), (fun _ _ => rfl), hI31, hs_jN67, hs_jBl, hs_jKb, hs_jKh, hs_jKg, hs_jNz, hs_jKh, (fun al ok nt rd => Or.inr ⟨⟨by omega, by omega⟩, Or.inr ⟨(fun z => by have z1 := z.1; rw [(show (σ 39 (A1).toNat).toInt = (σ 39 a1.toNatClampNeg).toInt from by rw [jnc (show a1.toInt = A1 from t1)])] at z1; omega), Or.inl ⟨by have ka := w100 (by omega) (by omega) ok; have cw := w35 (by omega) (by omega); intro z; rw [ka.fi] at z; exact absurd (w107.2 (by omega) z.2.1 _ (jFi_mb.mp z.2.2).choose_spec) (by first | decide | (intro e; have e9 := congrArg Int32.toInt e; rw [jz_0] at e9; omega)), by decide⟩⟩⟩), trivial⟩ hP hS dX11_puts_104
         · have kc97 := jnle c97 tx96 jz_8
           refine lv_bipush (v := (-4)) hx hb dX11_puts_71 (of_decide_eq_true rfl) ?_
           exact hret (-4) σ τ _ _ _ _ rfl ⟨rfl, (fun _ _ => rfl), (fun _ _ => rfl), hI31, hs_jN67, hs_jBl, hs_jKb, hs_jKh, hs_jKg, hs_jNz, hs_jKh, (fun al ok nt rd => Or.inr ⟨⟨by omega, by omega⟩, Or.inl ⟨⟨by rw [(show (σ 39 (A1).toNat).toInt = (σ 39 a1.toNatClampNeg).toInt from by rw [jnc (show a1.toInt = A1 from t1)])]; omega, by omega⟩, by decide⟩⟩), trivial⟩ hP hS dX11_puts_73
    · obtain ⟨q175, k174⟩ := h42
      exact absurd (by omega : False) id
set_option maxHeartbeats 4000000 in
set_option maxRecDepth 100000 in
theorem dv_c_X11_costOf (l : Launch) (D : va_G) (cI cL : ClassId) (ad zz : Nat → Nat) (hJ : jD ad) (σ : Nat → Nat → Int32) (τ : Nat → Nat → Int64) (a1 : Int32) (A1 : Int) (t1 : a1.toInt = A1) (hI2 : jI2 σ) (hI16 : jI16 σ) (hI22 : jI22 σ) (hI31 : jI31 σ) (hI47 : jI47 σ) (hI26 : jI26 σ) (hs_jOk3 : jOk3 σ) (hs_jN67 : jN67 σ) (hs_jBl : jBl σ) (hs_jKb : jKb σ) (hs_jKh : jKh σ) (hs_jKg : jKg σ) (hs_jNz : jNz σ) (hp0 : 0 ≤ A1) (hp1 : A1 < (σ 47 0).toInt) : jM l yX11_costOf cX11_costOf 12 (some .int) ({ frames := 6, cells := 0, slots := 0, locals := 162 }) D cI cL ad zz [.ref (ad 0), .int a1] σ τ (fun r σ' τ' => τ = τ' ∧ (∀ i : Nat, (i < 24 ∨ 25 < i) ∧ (i < 27 ∨ 37 < i) → σ' i = σ i) ∧ (∀ k : Nat, (k < 8 ∨ 8 < k) ∧ (k < 9 ∨ 9 < k) ∧ (k < 10 ∨ 10 < k) ∧ (k < 11 ∨ 11 < k) ∧ (k < 12 ∨ 12 < k) → σ' 31 k = σ 31 k) ∧ (jI31 σ') ∧ (jOk3 σ') ∧ (jN67 σ') ∧ (jBl σ') ∧ (jKb σ') ∧ (jKh σ') ∧ (jKg σ') ∧ (jNz σ') ∧ True) := by
  refine jM.of hJ (by decide +kernel) (nt := .int) rfl (Nat.le_of_ble_eq_true rfl) ?_
  intro p e s m args below meth c Q ls hC hret hl hP
  obtain ⟨hx, hb, hr, hml, hown, hts, hK, -, hlocks, hZ⟩ := hC
  have hown : s.vm.findClass RX11 = some m.cls := hown
  have hS : va_S (jA ad) s.heap s.heap [] := va_S.rf
  have hA : ∀ q, jA ad q → jA ad q := fun _ h => h
  have hl : lv_has ls 12 [(0, .ref (ad 0)), (1, .int a1)] := hl
  have g1 := jrg t1
  obtain ⟨i1, i2, i3, i4, i5, w6, w7⟩ : (0 ≤ (σ 2 0).toInt ∧ (σ 2 0).toInt ≤ 4) ∧ (0 ≤ (σ 2 1).toInt ∧ (σ 2 1).toInt ≤ 3) ∧ (0 ≤ (σ 2 2).toInt) ∧ (0 ≤ (σ 2 3).toInt) ∧ ((σ 2 2).toInt + (σ 2 3).toInt ≤ 40) ∧ (∀ k : Nat, k < 40 → 0 ≤ (σ 6 k).toInt ∧ (σ 6 k).toInt ≤ 67) ∧ (∀ k : Nat, k < 4 → 0 ≤ (σ 5 k).toInt ∧ (σ 5 k).toInt ≤ 20) := id hI2
  obtain ⟨i8, i9, i10, w11⟩ : (1 ≤ (σ 16 0).toInt ∧ (σ 16 0).toInt ≤ 8) ∧ (1 ≤ (σ 16 1).toInt ∧ (σ 16 1).toInt ≤ 12) ∧ (0 ≤ (σ 16 2).toInt ∧ (σ 16 2).toInt ≤ 999) ∧ (∀ k : Nat, k < 8 → 0 ≤ (σ 17 k).toInt ∧ (σ 17 k).toInt ≤ 3) := id hI16
  obtain ⟨i12, i13, i14, i15, w16, w17, w18⟩ : (0 ≤ (σ 31 8).toInt ∧ (σ 31 8).toInt ≤ 350) ∧ (0 ≤ (σ 31 10).toInt ∧ (σ 31 10).toInt ≤ 12) ∧ (0 ≤ (σ 31 11).toInt ∧ (σ 31 11).toInt ≤ 8) ∧ ((σ 31 10).toInt + (σ 31 11).toInt ≤ 12) ∧ (∀ k : Nat, k < 1400 → (-1) ≤ (σ 33 k).toInt ∧ (σ 33 k).toInt ≤ 350) ∧ (∀ k : Nat, k < 3159 → (-1) ≤ (σ 35 k).toInt ∧ (σ 35 k).toInt ≤ 3) ∧ (∀ k : Nat, k < 1024 → 0 ≤ (σ 36 k).toInt ∧ (σ 36 k).toInt ≤ 349) := id hI31
  obtain ⟨i19, w20, w21⟩ : (0 ≤ (σ 47 0).toInt ∧ (σ 47 0).toInt ≤ 12) ∧ (∀ k : Nat, k < 12 → 0 ≤ (σ 48 k).toInt ∧ (σ 48 k).toInt ≤ 3) ∧ (∀ k : Nat, k < 12 → 0 ≤ (σ 49 k).toInt ∧ (σ 49 k).toInt ≤ 1) := id hI47
  refine lv_aload_n hx hb dX11_costOf_0 rfl (lv_at hl 0 rfl) ?_
  refine va_get (D := D) hx hb hts inlX11 hown hK hP 0 (jc_0 cI cL ad σ τ) rfl 9 (of_decide_eq_true rfl) (hts _ kw_3_1) (fun _ h9 => h9) rfl dX11_costOf_1 ?_
  refine lv_iload_n hx hb dX11_costOf_4 rfl (lv_at hl 1 rfl) ?_
  refine jcallV (As := [.int a1]) (rest := []) ⟨hx, hb, hml, hown, hts⟩ hK hP hA hS hZ (c_X2_outs_47 l D cI cL ad zz hJ σ τ a1 (A1) t1 hI47) cw_RX11_180 (jc_47 cI cL ad σ τ) rfl ⟨Nat.le_of_ble_eq_true rfl, Nat.le_of_ble_eq_true rfl⟩ rfl rfl rfl hl.1 rfl (Nat.le_of_ble_eq_true rfl) dX11_costOf_5 ⟨Nat.zero_le _, Nat.zero_le _⟩ (fun r23 σ22 τ22 H locs h22 hP hS => ?_)
  obtain ⟨⟨rfl, rfl⟩, w24, h22⟩ := h22
  have h25 := h22
  obtain ⟨q27, k26⟩ := h25
  refine lv_istore_n (lv' := [(2, .int r23), (0, .ref (ad 0)), (1, .int a1)]) hx hb dX11_costOf_8 rfl hl (of_decide_eq_true rfl) rfl (fun ls hl => ?_)
  refine lv_aload_n hx hb dX11_costOf_9 rfl (lv_at hl 1 rfl) ?_
  refine va_get (D := D) hx hb hts inlX11 hown hK hP 0 (jc_0 cI cL ad σ τ) rfl 9 (of_decide_eq_true rfl) (hts _ kw_3_1) (fun _ h9 => h9) rfl dX11_costOf_10 ?_
  refine lv_iload_n hx hb dX11_costOf_13 rfl (lv_at hl 2 rfl) ?_
  refine lv_aload_n hx hb dX11_costOf_14 rfl (lv_at hl 1 rfl) ?_
  refine va_get (D := D) hx hb hts inlX11 hown hK hP 0 (jc_0 cI cL ad σ τ) rfl 0 (of_decide_eq_true rfl) (hts _ kw_1_16) (fun _ h9 => h9) rfl dX11_costOf_15 ?_
  refine jcallV (As := [.int a1, .ref (ad 2)]) (rest := []) ⟨hx, hb, hml, hown, hts⟩ hK hP hA hS hZ (c_X2_attackAhead_47 l D cI cL ad zz hJ σ τ a1 (A1) t1 hI2 hI47) cw_RX11_186 (jc_47 cI cL ad σ τ) rfl ⟨Nat.le_of_ble_eq_true rfl, Nat.le_of_ble_eq_true rfl⟩ rfl rfl rfl hl.1 rfl (Nat.le_of_ble_eq_true rfl) dX11_costOf_18 ⟨Nat.zero_le _, Nat.zero_le _⟩ (fun r29 σ28 τ28 H locs h28 hP hS => ?_)
  obtain ⟨⟨rfl, rfl⟩, w30, w31, h28⟩ := h28
  have h32 := h28
  obtain ⟨q34, k33⟩ := h32
  refine lv_istore_n (lv' := [(3, .int r29), (2, .int r23), (0, .ref (ad 0)), (1, .int a1)]) hx hb dX11_costOf_21 rfl hl (of_decide_eq_true rfl) rfl (fun ls hl => ?_)
  refine lv_aload_n hx hb dX11_costOf_22 rfl (lv_at hl 2 rfl) ?_
  refine va_get (D := D) hx hb hts inlX11 hown hK hP 0 (jc_0 cI cL ad σ τ) rfl 9 (of_decide_eq_true rfl) (hts _ kw_3_1) (fun _ h9 => h9) rfl dX11_costOf_23 ?_
  refine lv_iload_n hx hb dX11_costOf_26 rfl (lv_at hl 3 rfl) ?_
  exact by
   refine jcallV (As := [.int a1]) (rest := []) ⟨hx, hb, hml, hown, hts⟩ hK hP hA hS hZ (c_X2_bowlerAt_i l D cI cL ad zz hJ σ τ a1 (A1) t1 hI47 (by omega) (by omega)) cw_RX11_343 (jc_47 cI cL ad σ τ) rfl ⟨Nat.le_of_ble_eq_true rfl, Nat.le_of_ble_eq_true rfl⟩ rfl rfl rfl hl.1 rfl (Nat.le_of_ble_eq_true rfl) dX11_costOf_27 ⟨Nat.zero_le _, Nat.zero_le _⟩ (fun r36 σ35 τ35 H locs h35 hP hS => ?_)
   obtain ⟨⟨rfl, rfl⟩, h35⟩ := h35
   have h37 := h35
   obtain ⟨q39, k38⟩ := h37
   refine lv_istore (lv' := [(4, .int r36), (3, .int r29), (2, .int r23), (0, .ref (ad 0)), (1, .int a1)]) hx hb dX11_costOf_30 hl (of_decide_eq_true rfl) rfl (fun ls hl => ?_)
   refine lv_aload_n hx hb dX11_costOf_32 rfl (lv_at hl 3 rfl) ?_
   refine va_get (D := D) hx hb hts inlX11 hown hK hP 0 (jc_0 cI cL ad σ τ) rfl 2 (of_decide_eq_true rfl) (hts _ kw_2_0) (fun _ h9 => h9) rfl dX11_costOf_33 ?_
   refine lv_iload_n hx hb dX11_costOf_36 rfl (lv_at hl 4 rfl) ?_
   refine lv_iload_n hx hb dX11_costOf_37 rfl (lv_at hl 2 rfl) ?_
   refine lv_iload_n hx hb dX11_costOf_38 rfl (lv_at hl 1 rfl) ?_
   refine jcallV (As := [.int a1, .int r23, .int r29]) (rest := []) ⟨hx, hb, hml, hown, hts⟩ hK hP hA hS hZ (c_X6_ended_16 l D cI cL ad zz hJ σ τ a1 (A1) t1 r23 (r23.toInt) rfl r29 (r29.toInt) rfl) cw_RX11_190 (jc_16 cI cL ad σ τ) rfl ⟨Nat.le_of_ble_eq_true rfl, Nat.le_of_ble_eq_true rfl⟩ rfl rfl rfl hl.1 rfl (Nat.le_of_ble_eq_true rfl) dX11_costOf_39 ⟨Nat.zero_le _, Nat.zero_le _⟩ (fun r41 σ40 τ40 H locs h40 hP hS => ?_)
   obtain ⟨⟨rfl, rfl⟩, w42, h40⟩ := h40
   refine lv_if_eq (tgt := 47) hx hb dX11_costOf_42 (of_decide_eq_true rfl) (fun c43 => ?_) (fun c43 => ?_)
   · have kc43 := jeq c43 rfl jz_0
     refine lv_aload_n hx hb dX11_costOf_47 rfl (lv_at hl 3 rfl) ?_
     refine va_get (D := D) hx hb hts inlX11 hown hK hP 0 (jc_0 cI cL ad σ τ) rfl 5 (of_decide_eq_true rfl) (hts _ kw_2_9) (fun _ h9 => h9) rfl dX11_costOf_48 ?_
     refine lv_aload_n hx hb dX11_costOf_51 rfl (lv_at hl 3 rfl) ?_
     refine va_get (D := D) hx hb hts inlX11 hown hK hP 0 (jc_0 cI cL ad σ τ) rfl 0 (of_decide_eq_true rfl) (hts _ kw_1_16) (fun _ h9 => h9) rfl dX11_costOf_52 ?_
     refine va_get (D := D) hx hb hts inlX4 hown hK hP 2 (jc_2 cI cL ad σ τ) rfl 1 (of_decide_eq_true rfl) (hts _ kw_12_8) (fun _ h9 => h9) rfl dX11_costOf_55 ?_
     exact by
      refine jcallVv (As := [.int (σ 2 1)]) (rest := []) ⟨hx, hb, hml, hown, hts⟩ hK hP hA hS hZ (c_X5_lay_26 l D cI cL ad zz hJ σ τ (σ 2 1) ((σ 2 1).toInt) rfl (by omega)) cw_RX11_156 (jc_26 cI cL ad σ τ) rfl ⟨Nat.le_of_ble_eq_true rfl, Nat.le_of_ble_eq_true rfl⟩ rfl rfl rfl hl.1 rfl (Nat.le_of_ble_eq_true rfl) dX11_costOf_58 ⟨Nat.zero_le _, Nat.zero_le _⟩ (fun σ44 τ44 H locs h44 hP hS => ?_)
      obtain ⟨rfl, f46, w47, h44⟩ := h44
      refine lv_aload_n hx hb dX11_costOf_61 rfl (lv_at hl 3 rfl) ?_
      refine va_get (D := D) hx hb hts inlX11 hown hK hP 0 (jc_0 cI cL ad σ44 τ) rfl 6 (of_decide_eq_true rfl) (hts _ kw_2_13) (fun _ h9 => h9) rfl dX11_costOf_62 ?_
      refine lv_iload_n hx hb dX11_costOf_65 rfl (lv_at hl 1 rfl) ?_
      refine lv_iload_n hx hb dX11_costOf_66 rfl (lv_at hl 4 rfl) ?_
      refine lv_iload_n hx hb dX11_costOf_67 rfl (lv_at hl 2 rfl) ?_
      have I49 : jI16 σ44 := jI16_fr (congrFun (f46 16 (of_decide_eq_true rfl)) 0) (congrFun (f46 16 (of_decide_eq_true rfl)) 1) (congrFun (f46 16 (of_decide_eq_true rfl)) 2) (f46 17 (of_decide_eq_true rfl)) hI16
      have I50 : jI22 σ44 := jI22_fr (congrFun (f46 22 (of_decide_eq_true rfl)) 0) (f46 23 (of_decide_eq_true rfl)) hI22
      have I51 : jI31 σ44 := jI31_fr (congrFun (f46 31 (of_decide_eq_true rfl)) 8) (congrFun (f46 31 (of_decide_eq_true rfl)) 10) (congrFun (f46 31 (of_decide_eq_true rfl)) 11) (f46 33 (of_decide_eq_true rfl)) (f46 35 (of_decide_eq_true rfl)) (f46 36 (of_decide_eq_true rfl)) hI31
      have I52 : jI26 σ44 := jI26_fr (congrFun (f46 26 (of_decide_eq_true rfl)) 6) hI26
      have p53 : jN67 σ44 := jN67.fr (f46 24 (of_decide_eq_true rfl)) hs_jN67
      have p54 : jBl σ44 := jBl.fr (congrFun (f46 22 (of_decide_eq_true rfl)) 0) (congrFun (f46 22 (of_decide_eq_true rfl)) 1) (f46 23 (of_decide_eq_true rfl)) (congrFun (f46 26 (of_decide_eq_true rfl)) 6) (congrFun (f46 26 (of_decide_eq_true rfl)) 7) (f46 29 (of_decide_eq_true rfl)) (f46 30 (of_decide_eq_true rfl)) hs_jBl
      have p55 : jKb σ44 := jKb.fr (congrFun (f46 31 (of_decide_eq_true rfl)) 8) (congrFun (f46 31 (of_decide_eq_true rfl)) 11) (f46 32 (of_decide_eq_true rfl)) hs_jKb
      have p56 : jKh σ44 := jKh.fr (congrFun (f46 31 (of_decide_eq_true rfl)) 8) (f46 32 (of_decide_eq_true rfl)) (f46 36 (of_decide_eq_true rfl)) (f46 37 (of_decide_eq_true rfl)) hs_jKh
      have p57 : jKg σ44 := jKg.fr (congrFun (f46 31 (of_decide_eq_true rfl)) 8) (congrFun (f46 31 (of_decide_eq_true rfl)) 9) (congrFun (f46 31 (of_decide_eq_true rfl)) 11) (congrFun (f46 31 (of_decide_eq_true rfl)) 12) (f46 32 (of_decide_eq_true rfl)) (f46 33 (of_decide_eq_true rfl)) hs_jKg
      have p58 : jNz σ44 := jNz.fr (f46 34 (of_decide_eq_true rfl)) hs_jNz
      have z59 : (σ44 16 1).toInt = (σ 16 1).toInt := (congrArg Int32.toInt (show σ44 16 1 = (σ 16 1) from (congrFun (f46 16 (of_decide_eq_true rfl)) 1)))
      exact by
       refine jcallVv (As := [.int r29, .int a1, .int r23]) (rest := []) ⟨hx, hb, hml, hown, hts⟩ hK hP hA hS hZ (c_X1_seek_31 l D cI cL ad zz hJ σ44 τ r29 (r29.toInt) rfl a1 (A1) t1 r23 (r23.toInt) rfl I49 I50 I51 I52 p53 p54 p55 p56 p57 p58 (by omega) (by omega) (by omega)) cw_RX11_193 (jc_31 cI cL ad σ44 τ) rfl ⟨Nat.le_of_ble_eq_true rfl, Nat.le_of_ble_eq_true rfl⟩ rfl rfl rfl hl.1 rfl (Nat.le_of_ble_eq_true rfl) dX11_costOf_68 ⟨Nat.zero_le _, Nat.zero_le _⟩ (fun σ60 τ60 H locs h60 hP hS => ?_)
       obtain ⟨rfl, f62, f63, I64, p65, p66, p67, p68, p69, p70, w71, h60⟩ := h60
       obtain ⟨i73, i74, i75, i76, w77, w78, w79⟩ : (0 ≤ (σ60 31 8).toInt ∧ (σ60 31 8).toInt ≤ 350) ∧ (0 ≤ (σ60 31 10).toInt ∧ (σ60 31 10).toInt ≤ 12) ∧ (0 ≤ (σ60 31 11).toInt ∧ (σ60 31 11).toInt ≤ 8) ∧ ((σ60 31 10).toInt + (σ60 31 11).toInt ≤ 12) ∧ (∀ k : Nat, k < 1400 → (-1) ≤ (σ60 33 k).toInt ∧ (σ60 33 k).toInt ≤ 350) ∧ (∀ k : Nat, k < 3159 → (-1) ≤ (σ60 35 k).toInt ∧ (σ60 35 k).toInt ≤ 3) ∧ (∀ k : Nat, k < 1024 → 0 ≤ (σ60 36 k).toInt ∧ (σ60 36 k).toInt ≤ 349) := id I64
       obtain ⟨k80, k81, k82, k83, h60⟩ := h60
       refine lv_aload_n hx hb dX11_costOf_71 rfl (lv_at hl 3 rfl) ?_
       refine va_get (D := D) hx hb hts inlX11 hown hK hP 0 (jc_0 cI cL ad σ60 τ) rfl 6 (of_decide_eq_true rfl) (hts _ kw_2_13) (fun _ h9 => h9) rfl dX11_costOf_72 ?_
       refine lv_iconst (v := 0) hx hb dX11_costOf_75 (of_decide_eq_true rfl) ?_
       refine lv_iload_n hx hb dX11_costOf_76 rfl (lv_at hl 2 rfl) ?_
       have I84 : jI16 σ60 := jI16_fr (congrFun (f62 16 (of_decide_eq_true rfl)) 0) (congrFun (f62 16 (of_decide_eq_true rfl)) 1) (congrFun (f62 16 (of_decide_eq_true rfl)) 2) (f62 17 (of_decide_eq_true rfl)) I49
       refine jcallV (As := [.int 0, .int r23]) (rest := []) ⟨hx, hb, hml, hown, hts⟩ hK hP hA hS hZ (c_X1_valueAt_31 l D cI cL ad zz hJ σ60 τ 0 (0) jz_0 r23 (r23.toInt) rfl I84 I64) cw_RX11_215 (jc_31 cI cL ad σ60 τ) rfl ⟨Nat.le_of_ble_eq_true rfl, Nat.le_of_ble_eq_true rfl⟩ rfl rfl rfl hl.1 rfl (Nat.le_of_ble_eq_true rfl) dX11_costOf_77 ⟨Nat.zero_le _, Nat.zero_le _⟩ (fun r86 σ85 τ85 H locs h85 hP hS => ?_)
       obtain ⟨⟨rfl, rfl⟩, w87, h85⟩ := h85
       refine lv_istore (lv' := [(5, .int r86), (4, .int r36), (3, .int r29), (2, .int r23), (0, .ref (ad 0)), (1, .int a1)]) hx hb dX11_costOf_80 hl (of_decide_eq_true rfl) rfl (fun ls hl => ?_)
       refine lv_iconst (v := 0) hx hb dX11_costOf_82 (of_decide_eq_true rfl) ?_
       refine lv_istore (lv' := [(6, .int 0), (5, .int r86), (4, .int r36), (3, .int r29), (2, .int r23), (0, .ref (ad 0)), (1, .int a1)]) hx hb dX11_costOf_83 hl (of_decide_eq_true rfl) rfl (fun ls hl => ?_)
       refine lv_iconst (v := 0) hx hb dX11_costOf_85 (of_decide_eq_true rfl) ?_
       refine lv_istore (lv' := [(7, .int 0), (6, .int 0), (5, .int r86), (4, .int r36), (3, .int r29), (2, .int r23), (0, .ref (ad 0)), (1, .int a1)]) hx hb dX11_costOf_86 hl (of_decide_eq_true rfl) rfl (fun ls hl => ?_)
       refine lv_iload_n hx hb dX11_costOf_88 rfl (lv_at hl 4 rfl) ?_
       refine lv_iload hx hb dX11_costOf_89 (lv_at hl 3 rfl) ?_
       exact by
        refine jcallS (As := [.int r29, .int r36]) (rest := []) ⟨hx, hb, hml, hown, hts⟩ hK hP hA hS hZ (c_X0_after_r l D cI cL ad zz hJ σ60 τ r29 (r29.toInt) rfl r36 (r36.toInt) rfl (by omega)) cw_RX11_232 ⟨Nat.le_of_ble_eq_true rfl, Nat.le_of_ble_eq_true rfl⟩ rfl rfl rfl hl.1 rfl (Nat.le_of_ble_eq_true rfl) dX11_costOf_91 ⟨Nat.zero_le _, Nat.zero_le _⟩ (fun r89 σ88 τ88 H locs h88 hP hS => ?_)
        obtain ⟨⟨rfl, rfl⟩, w90, w91, h88⟩ := h88
        have h92 := h88
        obtain ⟨q94, k93⟩ := h92
        refine lv_istore (lv' := [(8, .int r89), (7, .int 0), (6, .int 0), (5, .int r86), (4, .int r36), (3, .int r29), (2, .int r23), (0, .ref (ad 0)), (1, .int a1)]) hx hb dX11_costOf_94 hl (of_decide_eq_true rfl) rfl (fun ls hl => ?_)
        refine lv_iload_n hx hb dX11_costOf_96 rfl (lv_at hl 8 rfl) ?_
        refine lv_iconst (v := 1) hx hb dX11_costOf_97 (of_decide_eq_true rfl) ?_
        refine lv_iadd hx hb dX11_costOf_98 ?_
        refine lv_topi (fun x95 ex95 => ?_)
        exact by
         have tx95 : x95.toInt = A1 + 1 := (jadd ex95 t1 jz_1 (by omega) (by omega)).trans (by omega)
         refine lv_aload_n hx hb dX11_costOf_99 rfl (lv_at hl 7 rfl) ?_
         refine va_get (D := D) hx hb hts inlX11 hown hK hP 0 (jc_0 cI cL ad σ60 τ) rfl 2 (of_decide_eq_true rfl) (hts _ kw_2_0) (fun _ h9 => h9) rfl dX11_costOf_100 ?_
         refine va_get (D := D) hx hb hts inlX6 hown hK hP 16 (jc_16 cI cL ad σ60 τ) rfl 1 (of_decide_eq_true rfl) (hts _ kw_20_5) (fun _ h9 => h9) rfl dX11_costOf_103 ?_
         have m96 : σ60 16 1 = (σ 16 1) := ((congrFun (f62 16 (of_decide_eq_true rfl)) 1).trans (congrFun (f46 16 (of_decide_eq_true rfl)) 1))
         refine jtopr m96 ?_
         refine lv_icmp_ge (tgt := 146) hx hb dX11_costOf_106 (of_decide_eq_true rfl) (fun c97 => ?_) (fun c97 => ?_)
         · have kc97 := jle c97 rfl tx95
           refine lv_aload_n hx hb dX11_costOf_146 rfl (lv_at hl 7 rfl) ?_
           refine va_get (D := D) hx hb hts inlX11 hown hK hP 0 (jc_0 cI cL ad σ60 τ) rfl 2 (of_decide_eq_true rfl) (hts _ kw_2_0) (fun _ h9 => h9) rfl dX11_costOf_147 ?_
           refine lv_iload_n hx hb dX11_costOf_150 rfl (lv_at hl 6 rfl) ?_
           refine jcallV (As := [.int r23]) (rest := []) ⟨hx, hb, hml, hown, hts⟩ hK hP hA hS hZ (c_X6_sortAt_16 l D cI cL ad zz hJ σ60 τ r23 (r23.toInt) rfl I84) cw_RX11_149 (jc_16 cI cL ad σ60 τ) rfl ⟨Nat.le_of_ble_eq_true rfl, Nat.le_of_ble_eq_true rfl⟩ rfl rfl rfl hl.1 rfl (Nat.le_of_ble_eq_true rfl) dX11_costOf_151 ⟨Nat.zero_le _, Nat.zero_le _⟩ (fun r99 σ98 τ98 H locs h98 hP hS => ?_)
           obtain ⟨⟨rfl, rfl⟩, h98⟩ := h98
           rcases h98 with h100 | h101
           · obtain ⟨q104, k102, k103⟩ := h100
             have z105 : (σ60 17 r23.toNatClampNeg).toInt = (σ 17 r23.toNatClampNeg).toInt := by rw [f62 17 (of_decide_eq_true rfl), f46 17 (of_decide_eq_true rfl)]
             exact by
              have q106 : r99 = (σ 17 r23.toNatClampNeg) := q104.trans (by rw [f62 17 (of_decide_eq_true rfl), f46 17 (of_decide_eq_true rfl)])
              have q106e : (σ60 17 r23.toNatClampNeg).toInt = (σ 17 r23.toNatClampNeg).toInt := by rw [← q104, ← q106]
              have q106 := q106.symm
              subst q106
              refine lv_istore (lv' := [(9, .int (σ 17 r23.toNatClampNeg)), (8, .int r89), (7, .int 0), (6, .int 0), (5, .int r86), (4, .int r36), (3, .int r29), (2, .int r23), (0, .ref (ad 0)), (1, .int a1)]) hx hb dX11_costOf_154 hl (of_decide_eq_true rfl) rfl (fun ls hl => ?_)
              refine lv_iload_n hx hb dX11_costOf_156 rfl (lv_at hl 6 rfl) ?_
              refine lv_iload hx hb dX11_costOf_157 (lv_at hl 5 rfl) ?_
              refine jcallS (As := [.int r29, .int r36]) (rest := []) ⟨hx, hb, hml, hown, hts⟩ hK hP hA hS hZ (c_X0_steps l D cI cL ad zz hJ σ60 τ r29 (r29.toInt) rfl r36 (r36.toInt) rfl) cw_RX11_346 ⟨Nat.le_of_ble_eq_true rfl, Nat.le_of_ble_eq_true rfl⟩ rfl rfl rfl hl.1 rfl (Nat.le_of_ble_eq_true rfl) dX11_costOf_159 ⟨Nat.zero_le _, Nat.zero_le _⟩ (fun r108 σ107 τ107 H locs h107 hP hS => ?_)
              obtain ⟨⟨rfl, rfl⟩, w109, h107⟩ := h107
              have k110 := congrArg Int32.toInt w109
              have h111 := h107
              obtain ⟨q113, k112⟩ := h111
              refine lv_istore (lv' := [(10, .int r108), (9, .int (σ 17 r23.toNatClampNeg)), (8, .int r89), (7, .int 0), (6, .int 0), (5, .int r86), (4, .int r36), (3, .int r29), (2, .int r23), (0, .ref (ad 0)), (1, .int a1)]) hx hb dX11_costOf_162 hl (of_decide_eq_true rfl) rfl (fun ls hl => ?_)
              refine lv_aload_n hx hb dX11_costOf_164 rfl (lv_at hl 9 rfl) ?_
              refine va_get (D := D) hx hb hts inlX11 hown hK hP 0 (jc_0 cI cL ad σ60 τ) rfl 5 (of_decide_eq_true rfl) (hts _ kw_2_9) (fun _ h9 => h9) rfl dX11_costOf_165 ?_
              refine lv_iload hx hb dX11_costOf_168 (lv_at hl 6 rfl) ?_
              refine lv_iload hx hb dX11_costOf_170 (lv_at hl 1 rfl) ?_
              refine lv_iload hx hb dX11_costOf_172 (lv_at hl 0 rfl) ?_
              refine lv_aload_n hx hb dX11_costOf_174 rfl (lv_at hl 9 rfl) ?_
              refine va_get (D := D) hx hb hts inlX11 hown hK hP 0 (jc_0 cI cL ad σ60 τ) rfl 9 (of_decide_eq_true rfl) (hts _ kw_3_1) (fun _ h9 => h9) rfl dX11_costOf_175 ?_
              refine lv_iload_n hx hb dX11_costOf_178 rfl (lv_at hl 10 rfl) ?_
              refine lv_iload hx hb dX11_costOf_179 (lv_at hl 6 rfl) ?_
              refine lv_aload_n hx hb dX11_costOf_181 rfl (lv_at hl 9 rfl) ?_
              refine va_get (D := D) hx hb hts inlX11 hown hK hP 0 (jc_0 cI cL ad σ60 τ) rfl 0 (of_decide_eq_true rfl) (hts _ kw_1_16) (fun _ h9 => h9) rfl dX11_costOf_182 ?_
              have I114 : jI47 σ60 := jI47_fr ((congrFun (f62 47 (of_decide_eq_true rfl)) 0).trans (congrFun (f46 47 (of_decide_eq_true rfl)) 0)) ((f62 48 (of_decide_eq_true rfl)).trans (f46 48 (of_decide_eq_true rfl))) ((f62 49 (of_decide_eq_true rfl)).trans (f46 49 (of_decide_eq_true rfl))) hI47
              have p115 : jOk3 σ60 := jOk3.fr ((f62 3 (of_decide_eq_true rfl)).trans (f46 3 (of_decide_eq_true rfl))) hs_jOk3
              exact by
               refine jcallV (As := [.int a1, .int r36, .ref (ad 2)]) (rest := [.int r108, .int (σ 17 r23.toNatClampNeg), .int r36, .ref (ad 26)]) ⟨hx, hb, hml, hown, hts⟩ hK hP hA hS hZ (c_X2_leftAhead_47 l D cI cL ad zz hJ σ60 τ a1 (A1) t1 r36 (r36.toInt) rfl I114 p115 (by omega)) cw_RX11_349 (jc_47 cI cL ad σ60 τ) rfl ⟨Nat.le_of_ble_eq_true rfl, Nat.le_of_ble_eq_true rfl⟩ rfl rfl rfl hl.1 rfl (Nat.le_of_ble_eq_true rfl) dX11_costOf_185 ⟨Nat.zero_le _, Nat.zero_le _⟩ (fun r117 σ116 τ116 H locs h116 hP hS => ?_)
               obtain ⟨⟨rfl, rfl⟩, h116⟩ := h116
               have h118 := h116
               obtain ⟨q120, k119⟩ := h118
               refine lv_iload_n hx hb dX11_costOf_188 rfl (lv_at hl 10 rfl) ?_
               refine lv_iload_n hx hb dX11_costOf_189 rfl (lv_at hl 8 rfl) ?_
               have I121 : jI22 σ60 := jI22_fr (congrFun (f62 22 (of_decide_eq_true rfl)) 0) (f62 23 (of_decide_eq_true rfl)) I50
               have I122 : jI26 σ60 := jI26_fr (congrFun (f62 26 (of_decide_eq_true rfl)) 6) I52
               refine jcallV (As := [.int r36, .int (σ 17 r23.toNatClampNeg), .int r108, .int r117, .int a1, .int r23]) (rest := []) ⟨hx, hb, hml, hown, hts⟩ hK hP hA hS hZ (c_X5_outOf_26 l D cI cL ad zz hJ σ60 τ r36 (r36.toInt) rfl (σ 17 r23.toNatClampNeg) ((σ 17 r23.toNatClampNeg).toInt) rfl r108 (r108.toInt) rfl r117 (r117.toInt) rfl a1 (A1) t1 r23 (r23.toInt) rfl I121 I122 p65 p66 (by omega) (by omega) (by omega) (by omega) (by omega) (by omega)) cw_RX11_166 (jc_26 cI cL ad σ60 τ) rfl ⟨Nat.le_of_ble_eq_true rfl, Nat.le_of_ble_eq_true rfl⟩ rfl rfl rfl hl.1 rfl (Nat.le_of_ble_eq_true rfl) dX11_costOf_190 ⟨Nat.zero_le _, Nat.zero_le _⟩ (fun r124 σ123 τ123 H locs h123 hP hS => ?_)
               exact by
                obtain ⟨rfl, f125, p126, p127, w128, h123⟩ := h123
                refine lv_istore (lv' := [(11, .int r124), (10, .int r108), (9, .int (σ 17 r23.toNatClampNeg)), (8, .int r89), (7, .int 0), (6, .int 0), (5, .int r86), (4, .int r36), (3, .int r29), (2, .int r23), (0, .ref (ad 0)), (1, .int a1)]) hx hb dX11_costOf_193 hl (of_decide_eq_true rfl) rfl (fun ls hl => ?_)
                refine lv_aload_n hx hb dX11_costOf_195 rfl (lv_at hl 10 rfl) ?_
                refine va_get (D := D) hx hb hts inlX11 hown hK hP 0 (jc_0 cI cL ad σ123 τ) rfl 2 (of_decide_eq_true rfl) (hts _ kw_2_0) (fun _ h9 => h9) rfl dX11_costOf_196 ?_
                refine lv_aload_n hx hb dX11_costOf_199 rfl (lv_at hl 10 rfl) ?_
                refine va_get (D := D) hx hb hts inlX11 hown hK hP 0 (jc_0 cI cL ad σ123 τ) rfl 5 (of_decide_eq_true rfl) (hts _ kw_2_9) (fun _ h9 => h9) rfl dX11_costOf_200 ?_
                refine lv_iload hx hb dX11_costOf_203 (lv_at hl 7 rfl) ?_
                refine lv_iload hx hb dX11_costOf_205 (lv_at hl 2 rfl) ?_
                refine lv_iload hx hb dX11_costOf_207 (lv_at hl 1 rfl) ?_
                exact by
                 refine jcallV (As := [.int r36, .int (σ 17 r23.toNatClampNeg), .int r108]) (rest := [.ref (ad 16)]) ⟨hx, hb, hml, hown, hts⟩ hK hP hA hS hZ (c_X5_runsOf_26 l D cI cL ad zz hJ σ123 τ r36 (r36.toInt) rfl (σ 17 r23.toNatClampNeg) ((σ 17 r23.toNatClampNeg).toInt) rfl r108 (r108.toInt) rfl (by omega) (by omega) (by omega)) cw_RX11_160 (jc_26 cI cL ad σ123 τ) rfl ⟨Nat.le_of_ble_eq_true rfl, Nat.le_of_ble_eq_true rfl⟩ rfl rfl rfl hl.1 rfl (Nat.le_of_ble_eq_true rfl) dX11_costOf_209 ⟨Nat.zero_le _, Nat.zero_le _⟩ (fun r131 σ130 τ130 H locs h130 hP hS => ?_)
                 obtain ⟨⟨rfl, rfl⟩, w132, h130⟩ := h130
                 refine lv_iload hx hb dX11_costOf_212 (lv_at hl 0 rfl) ?_
                 refine lv_iload hx hb dX11_costOf_214 (lv_at hl 5 rfl) ?_
                 refine lv_iload hx hb dX11_costOf_216 (lv_at hl 4 rfl) ?_
                 refine jcallV (As := [.int r131, .int r124, .int 0, .int 0]) (rest := []) ⟨hx, hb, hml, hown, hts⟩ hK hP hA hS hZ (c_X6_meanOf_16 l D cI cL ad zz hJ σ123 τ r131 (r131.toInt) rfl r124 (r124.toInt) rfl 0 (0) jz_0 0 (0) jz_0) cw_RX11_353 (jc_16 cI cL ad σ123 τ) rfl ⟨Nat.le_of_ble_eq_true rfl, Nat.le_of_ble_eq_true rfl⟩ rfl rfl rfl hl.1 rfl (Nat.le_of_ble_eq_true rfl) dX11_costOf_218 ⟨Nat.zero_le _, Nat.zero_le _⟩ (fun r134 σ133 τ133 H locs h133 hP hS => ?_)
                 obtain ⟨⟨rfl, rfl⟩, w135, h133⟩ := h133
                 refine lv_iload hx hb dX11_costOf_221 (lv_at hl 6 rfl) ?_
                 have g136 := jrg (rfl : r134.toInt = r134.toInt)
                 have g137 := jrg (rfl : r86.toInt = r86.toInt)
                 refine lv_isub hx hb dX11_costOf_223 ?_
                 refine lv_topi (fun x138 ex138 => ?_)
                 have gx138 := jrg (rfl : x138.toInt = x138.toInt)
                 have I139 : jI31 σ123 := jI31_fr (congrFun (f125 31 (of_decide_eq_true rfl)) 8) (congrFun (f125 31 (of_decide_eq_true rfl)) 10) (congrFun (f125 31 (of_decide_eq_true rfl)) 11) (f125 33 (of_decide_eq_true rfl)) (f125 35 (of_decide_eq_true rfl)) (f125 36 (of_decide_eq_true rfl)) I64
                 have p140 : jOk3 σ123 := jOk3.fr (f125 3 (of_decide_eq_true rfl)) p115
                 have p141 : jKb σ123 := jKb.fr (congrFun (f125 31 (of_decide_eq_true rfl)) 8) (congrFun (f125 31 (of_decide_eq_true rfl)) 11) (f125 32 (of_decide_eq_true rfl)) p67
                 have p142 : jKh σ123 := jKh.fr (congrFun (f125 31 (of_decide_eq_true rfl)) 8) (f125 32 (of_decide_eq_true rfl)) (f125 36 (of_decide_eq_true rfl)) (f125 37 (of_decide_eq_true rfl)) p68
                 have p143 : jKg σ123 := jKg.fr (congrFun (f125 31 (of_decide_eq_true rfl)) 8) (congrFun (f125 31 (of_decide_eq_true rfl)) 9) (congrFun (f125 31 (of_decide_eq_true rfl)) 11) (congrFun (f125 31 (of_decide_eq_true rfl)) 12) (f125 32 (of_decide_eq_true rfl)) (f125 33 (of_decide_eq_true rfl)) p69
                 have p144 : jNz σ123 := jNz.fr (f125 34 (of_decide_eq_true rfl)) p70
                 exact hret x138 σ123 τ _ _ _ _ rfl ⟨rfl, (fun i hi => ((f125 i (imp_143 i hi)).trans ((f62 i (imp_132 i hi)).trans (f46 i (imp_131 i hi))))), (fun i hi => ((congrFun (f125 31 (of_decide_eq_true rfl)) i).trans ((f63 i hi).trans (congrFun (f46 31 (of_decide_eq_true rfl)) i)))), I139, p140, p126, p127, p141, p142, p143, p144, trivial⟩ hP hS dX11_costOf_224
           · obtain ⟨q146, k145⟩ := h101
             have z147 : (σ60 17 r23.toNatClampNeg).toInt = (σ 17 r23.toNatClampNeg).toInt := by rw [f62 17 (of_decide_eq_true rfl), f46 17 (of_decide_eq_true rfl)]
             have q146 := q146.symm
             subst q146
             refine lv_istore (lv' := [(9, .int 0), (8, .int r89), (7, .int 0), (6, .int 0), (5, .int r86), (4, .int r36), (3, .int r29), (2, .int r23), (0, .ref (ad 0)), (1, .int a1)]) hx hb dX11_costOf_154 hl (of_decide_eq_true rfl) rfl (fun ls hl => ?_)
             refine lv_iload_n hx hb dX11_costOf_156 rfl (lv_at hl 6 rfl) ?_
             refine lv_iload hx hb dX11_costOf_157 (lv_at hl 5 rfl) ?_
             refine jcallS (As := [.int r29, .int r36]) (rest := []) ⟨hx, hb, hml, hown, hts⟩ hK hP hA hS hZ (c_X0_steps l D cI cL ad zz hJ σ60 τ r29 (r29.toInt) rfl r36 (r36.toInt) rfl) cw_RX11_346 ⟨Nat.le_of_ble_eq_true rfl, Nat.le_of_ble_eq_true rfl⟩ rfl rfl rfl hl.1 rfl (Nat.le_of_ble_eq_true rfl) dX11_costOf_159 ⟨Nat.zero_le _, Nat.zero_le _⟩ (fun r149 σ148 τ148 H locs h148 hP hS => ?_)
             obtain ⟨⟨rfl, rfl⟩, w150, h148⟩ := h148
             have k151 := congrArg Int32.toInt w150
             have h152 := h148
             obtain ⟨q154, k153⟩ := h152
             refine lv_istore (lv' := [(10, .int r149), (9, .int 0), (8, .int r89), (7, .int 0), (6, .int 0), (5, .int r86), (4, .int r36), (3, .int r29), (2, .int r23), (0, .ref (ad 0)), (1, .int a1)]) hx hb dX11_costOf_162 hl (of_decide_eq_true rfl) rfl (fun ls hl => ?_)
             refine lv_aload_n hx hb dX11_costOf_164 rfl (lv_at hl 9 rfl) ?_
             refine va_get (D := D) hx hb hts inlX11 hown hK hP 0 (jc_0 cI cL ad σ60 τ) rfl 5 (of_decide_eq_true rfl) (hts _ kw_2_9) (fun _ h9 => h9) rfl dX11_costOf_165 ?_
             refine lv_iload hx hb dX11_costOf_168 (lv_at hl 6 rfl) ?_
             refine lv_iload hx hb dX11_costOf_170 (lv_at hl 1 rfl) ?_
             refine lv_iload hx hb dX11_costOf_172 (lv_at hl 0 rfl) ?_
             refine lv_aload_n hx hb dX11_costOf_174 rfl (lv_at hl 9 rfl) ?_
             refine va_get (D := D) hx hb hts inlX11 hown hK hP 0 (jc_0 cI cL ad σ60 τ) rfl 9 (of_decide_eq_true rfl) (hts _ kw_3_1) (fun _ h9 => h9) rfl dX11_costOf_175 ?_
             refine lv_iload_n hx hb dX11_costOf_178 rfl (lv_at hl 10 rfl) ?_
             refine lv_iload hx hb dX11_costOf_179 (lv_at hl 6 rfl) ?_
             refine lv_aload_n hx hb dX11_costOf_181 rfl (lv_at hl 9 rfl) ?_
             refine va_get (D := D) hx hb hts inlX11 hown hK hP 0 (jc_0 cI cL ad σ60 τ) rfl 0 (of_decide_eq_true rfl) (hts _ kw_1_16) (fun _ h9 => h9) rfl dX11_costOf_182 ?_
             have I155 : jI47 σ60 := jI47_fr ((congrFun (f62 47 (of_decide_eq_true rfl)) 0).trans (congrFun (f46 47 (of_decide_eq_true rfl)) 0)) ((f62 48 (of_decide_eq_true rfl)).trans (f46 48 (of_decide_eq_true rfl))) ((f62 49 (of_decide_eq_true rfl)).trans (f46 49 (of_decide_eq_true rfl))) hI47
             have p156 : jOk3 σ60 := jOk3.fr ((f62 3 (of_decide_eq_true rfl)).trans (f46 3 (of_decide_eq_true rfl))) hs_jOk3
             exact by
              refine jcallV (As := [.int a1, .int r36, .ref (ad 2)]) (rest := [.int r149, .int 0, .int r36, .ref (ad 26)]) ⟨hx, hb, hml, hown, hts⟩ hK hP hA hS hZ (c_X2_leftAhead_47 l D cI cL ad zz hJ σ60 τ a1 (A1) t1 r36 (r36.toInt) rfl I155 p156 (by omega)) cw_RX11_349 (jc_47 cI cL ad σ60 τ) rfl ⟨Nat.le_of_ble_eq_true rfl, Nat.le_of_ble_eq_true rfl⟩ rfl rfl rfl hl.1 rfl (Nat.le_of_ble_eq_true rfl) dX11_costOf_185 ⟨Nat.zero_le _, Nat.zero_le _⟩ (fun r158 σ157 τ157 H locs h157 hP hS => ?_)
              obtain ⟨⟨rfl, rfl⟩, h157⟩ := h157
              have h159 := h157
              obtain ⟨q161, k160⟩ := h159
              refine lv_iload_n hx hb dX11_costOf_188 rfl (lv_at hl 10 rfl) ?_
              refine lv_iload_n hx hb dX11_costOf_189 rfl (lv_at hl 8 rfl) ?_
              have I162 : jI22 σ60 := jI22_fr (congrFun (f62 22 (of_decide_eq_true rfl)) 0) (f62 23 (of_decide_eq_true rfl)) I50
              have I163 : jI26 σ60 := jI26_fr (congrFun (f62 26 (of_decide_eq_true rfl)) 6) I52
              refine jcallV (As := [.int r36, .int 0, .int r149, .int r158, .int a1, .int r23]) (rest := []) ⟨hx, hb, hml, hown, hts⟩ hK hP hA hS hZ (c_X5_outOf_26 l D cI cL ad zz hJ σ60 τ r36 (r36.toInt) rfl 0 (0) jz_0 r149 (r149.toInt) rfl r158 (r158.toInt) rfl a1 (A1) t1 r23 (r23.toInt) rfl I162 I163 p65 p66 (by omega) (by omega) (by omega) (by omega) (by omega) (by omega)) cw_RX11_166 (jc_26 cI cL ad σ60 τ) rfl ⟨Nat.le_of_ble_eq_true rfl, Nat.le_of_ble_eq_true rfl⟩ rfl rfl rfl hl.1 rfl (Nat.le_of_ble_eq_true rfl) dX11_costOf_190 ⟨Nat.zero_le _, Nat.zero_le _⟩ (fun r165 σ164 τ164 H locs h164 hP hS => ?_)
              exact by
               obtain ⟨rfl, f166, p167, p168, w169, h164⟩ := h164
               refine lv_istore (lv' := [(11, .int r165), (10, .int r149), (9, .int 0), (8, .int r89), (7, .int 0), (6, .int 0), (5, .int r86), (4, .int r36), (3, .int r29), (2, .int r23), (0, .ref (ad 0)), (1, .int a1)]) hx hb dX11_costOf_193 hl (of_decide_eq_true rfl) rfl (fun ls hl => ?_)
               refine lv_aload_n hx hb dX11_costOf_195 rfl (lv_at hl 10 rfl) ?_
               refine va_get (D := D) hx hb hts inlX11 hown hK hP 0 (jc_0 cI cL ad σ164 τ) rfl 2 (of_decide_eq_true rfl) (hts _ kw_2_0) (fun _ h9 => h9) rfl dX11_costOf_196 ?_
               refine lv_aload_n hx hb dX11_costOf_199 rfl (lv_at hl 10 rfl) ?_
               refine va_get (D := D) hx hb hts inlX11 hown hK hP 0 (jc_0 cI cL ad σ164 τ) rfl 5 (of_decide_eq_true rfl) (hts _ kw_2_9) (fun _ h9 => h9) rfl dX11_costOf_200 ?_
               refine lv_iload hx hb dX11_costOf_203 (lv_at hl 7 rfl) ?_
               refine lv_iload hx hb dX11_costOf_205 (lv_at hl 2 rfl) ?_
               refine lv_iload hx hb dX11_costOf_207 (lv_at hl 1 rfl) ?_
               exact by
                refine jcallV (As := [.int r36, .int 0, .int r149]) (rest := [.ref (ad 16)]) ⟨hx, hb, hml, hown, hts⟩ hK hP hA hS hZ (c_X5_runsOf_26 l D cI cL ad zz hJ σ164 τ r36 (r36.toInt) rfl 0 (0) jz_0 r149 (r149.toInt) rfl (by omega) (by omega) (by omega)) cw_RX11_160 (jc_26 cI cL ad σ164 τ) rfl ⟨Nat.le_of_ble_eq_true rfl, Nat.le_of_ble_eq_true rfl⟩ rfl rfl rfl hl.1 rfl (Nat.le_of_ble_eq_true rfl) dX11_costOf_209 ⟨Nat.zero_le _, Nat.zero_le _⟩ (fun r172 σ171 τ171 H locs h171 hP hS => ?_)
                obtain ⟨⟨rfl, rfl⟩, w173, h171⟩ := h171
                refine lv_iload hx hb dX11_costOf_212 (lv_at hl 0 rfl) ?_
                refine lv_iload hx hb dX11_costOf_214 (lv_at hl 5 rfl) ?_
                refine lv_iload hx hb dX11_costOf_216 (lv_at hl 4 rfl) ?_
                refine jcallV (As := [.int r172, .int r165, .int 0, .int 0]) (rest := []) ⟨hx, hb, hml, hown, hts⟩ hK hP hA hS hZ (c_X6_meanOf_16 l D cI cL ad zz hJ σ164 τ r172 (r172.toInt) rfl r165 (r165.toInt) rfl 0 (0) jz_0 0 (0) jz_0) cw_RX11_353 (jc_16 cI cL ad σ164 τ) rfl ⟨Nat.le_of_ble_eq_true rfl, Nat.le_of_ble_eq_true rfl⟩ rfl rfl rfl hl.1 rfl (Nat.le_of_ble_eq_true rfl) dX11_costOf_218 ⟨Nat.zero_le _, Nat.zero_le _⟩ (fun r175 σ174 τ174 H locs h174 hP hS => ?_)
                obtain ⟨⟨rfl, rfl⟩, w176, h174⟩ := h174
                refine lv_iload hx hb dX11_costOf_221 (lv_at hl 6 rfl) ?_
                have g177 := jrg (rfl : r175.toInt = r175.toInt)
                have g178 := jrg (rfl : r86.toInt = r86.toInt)
                refine lv_isub hx hb dX11_costOf_223 ?_
                refine lv_topi (fun x179 ex179 => ?_)
                have gx179 := jrg (rfl : x179.toInt = x179.toInt)
                have I180 : jI31 σ164 := jI31_fr (congrFun (f166 31 (of_decide_eq_true rfl)) 8) (congrFun (f166 31 (of_decide_eq_true rfl)) 10) (congrFun (f166 31 (of_decide_eq_true rfl)) 11) (f166 33 (of_decide_eq_true rfl)) (f166 35 (of_decide_eq_true rfl)) (f166 36 (of_decide_eq_true rfl)) I64
                have p181 : jOk3 σ164 := jOk3.fr (f166 3 (of_decide_eq_true rfl)) p156
                have p182 : jKb σ164 := jKb.fr (congrFun (f166 31 (of_decide_eq_true rfl)) 8) (congrFun (f166 31 (of_decide_eq_true rfl)) 11) (f166 32 (of_decide_eq_true rfl)) p67
                have p183 : jKh σ164 := jKh.fr (congrFun (f166 31 (of_decide_eq_true rfl)) 8) (f166 32 (of_decide_eq_true rfl)) (f166 36 (of_decide_eq_true rfl)) (f166 37 (of_decide_eq_true rfl)) p68
                have p184 : jKg σ164 := jKg.fr (congrFun (f166 31 (of_decide_eq_true rfl)) 8) (congrFun (f166 31 (of_decide_eq_true rfl)) 9) (congrFun (f166 31 (of_decide_eq_true rfl)) 11) (congrFun (f166 31 (of_decide_eq_true rfl)) 12) (f166 32 (of_decide_eq_true rfl)) (f166 33 (of_decide_eq_true rfl)) p69
                have p185 : jNz σ164 := jNz.fr (f166 34 (of_decide_eq_true rfl)) p70
                exact hret x179 σ164 τ _ _ _ _ rfl ⟨rfl, (fun i hi => ((f166 i (imp_143 i hi)).trans ((f62 i (imp_132 i hi)).trans (f46 i (imp_131 i hi))))), (fun i hi => ((congrFun (f166 31 (of_decide_eq_true rfl)) i).trans ((f63 i hi).trans (congrFun (f46 31 (of_decide_eq_true rfl)) i)))), I180, p181, p167, p168, p182, p183, p184, p185, trivial⟩ hP hS dX11_costOf_224
         · have kc97 := jnle c97 rfl tx95
           refine lv_aload_n hx hb dX11_costOf_109 rfl (lv_at hl 7 rfl) ?_
           refine va_get (D := D) hx hb hts inlX11 hown hK hP 0 (jc_0 cI cL ad σ60 τ) rfl 6 (of_decide_eq_true rfl) (hts _ kw_2_13) (fun _ h9 => h9) rfl dX11_costOf_110 ?_
           refine lv_iload hx hb dX11_costOf_113 (lv_at hl 0 rfl) ?_
           refine lv_iload_n hx hb dX11_costOf_115 rfl (lv_at hl 8 rfl) ?_
           refine lv_iconst (v := 1) hx hb dX11_costOf_116 (of_decide_eq_true rfl) ?_
           refine lv_iadd hx hb dX11_costOf_117 ?_
           refine lv_topi (fun x186 ex186 => ?_)
           exact by
            have tx186 : x186.toInt = A1 + 1 := (jadd ex186 t1 jz_1 (by omega) (by omega)).trans (by omega)
            refine lv_iload_n hx hb dX11_costOf_118 rfl (lv_at hl 6 rfl) ?_
            have I187 : jI22 σ60 := jI22_fr (congrFun (f62 22 (of_decide_eq_true rfl)) 0) (f62 23 (of_decide_eq_true rfl)) I50
            have I188 : jI26 σ60 := jI26_fr (congrFun (f62 26 (of_decide_eq_true rfl)) 6) I52
            have z189 : (σ60 16 1).toInt = (σ 16 1).toInt := (congrArg Int32.toInt (show σ60 16 1 = (σ 16 1) from m96))
            refine jcallVv (As := [.int r89, .int x186, .int r23]) (rest := []) ⟨hx, hb, hml, hown, hts⟩ hK hP hA hS hZ (c_X1_seek_31 l D cI cL ad zz hJ σ60 τ r89 (r89.toInt) rfl x186 (A1 + 1) tx186 r23 (r23.toInt) rfl I84 I187 I64 I188 p65 p66 p67 p68 p69 p70 (by omega) (by omega) (by omega)) cw_RX11_193 (jc_31 cI cL ad σ60 τ) rfl ⟨Nat.le_of_ble_eq_true rfl, Nat.le_of_ble_eq_true rfl⟩ rfl rfl rfl hl.1 rfl (Nat.le_of_ble_eq_true rfl) dX11_costOf_119 ⟨Nat.zero_le _, Nat.zero_le _⟩ (fun σ190 τ190 H locs h190 hP hS => ?_)
            obtain ⟨rfl, f192, f193, I194, p195, p196, p197, p198, p199, p200, w201, h190⟩ := h190
            obtain ⟨i203, i204, i205, i206, w207, w208, w209⟩ : (0 ≤ (σ190 31 8).toInt ∧ (σ190 31 8).toInt ≤ 350) ∧ (0 ≤ (σ190 31 10).toInt ∧ (σ190 31 10).toInt ≤ 12) ∧ (0 ≤ (σ190 31 11).toInt ∧ (σ190 31 11).toInt ≤ 8) ∧ ((σ190 31 10).toInt + (σ190 31 11).toInt ≤ 12) ∧ (∀ k : Nat, k < 1400 → (-1) ≤ (σ190 33 k).toInt ∧ (σ190 33 k).toInt ≤ 350) ∧ (∀ k : Nat, k < 3159 → (-1) ≤ (σ190 35 k).toInt ∧ (σ190 35 k).toInt ≤ 3) ∧ (∀ k : Nat, k < 1024 → 0 ≤ (σ190 36 k).toInt ∧ (σ190 36 k).toInt ≤ 349) := id I194
            obtain ⟨k210, k211, k212, k213, h190⟩ := h190
            exact by
             refine lv_aload_n hx hb dX11_costOf_122 rfl (lv_at hl 7 rfl) ?_
             refine va_get (D := D) hx hb hts inlX11 hown hK hP 0 (jc_0 cI cL ad σ190 τ) rfl 6 (of_decide_eq_true rfl) (hts _ kw_2_13) (fun _ h9 => h9) rfl dX11_costOf_123 ?_
             refine lv_iconst (v := 0) hx hb dX11_costOf_126 (of_decide_eq_true rfl) ?_
             refine lv_iload_n hx hb dX11_costOf_127 rfl (lv_at hl 6 rfl) ?_
             refine lv_iconst (v := 1) hx hb dX11_costOf_128 (of_decide_eq_true rfl) ?_
             have g214 := jrg (rfl : r23.toInt = r23.toInt)
             refine lv_iadd hx hb dX11_costOf_129 ?_
             refine lv_topi (fun x215 ex215 => ?_)
             have tx215 : x215.toInt = r23.toInt + 1 := (jadd ex215 rfl jz_1 (by omega) (by omega)).trans (by omega)
             exact by
              have I216 : jI16 σ190 := jI16_fr (congrFun (f192 16 (of_decide_eq_true rfl)) 0) (congrFun (f192 16 (of_decide_eq_true rfl)) 1) (congrFun (f192 16 (of_decide_eq_true rfl)) 2) (f192 17 (of_decide_eq_true rfl)) I84
              refine jcallV (As := [.int 0, .int x215]) (rest := []) ⟨hx, hb, hml, hown, hts⟩ hK hP hA hS hZ (c_X1_valueAt_31 l D cI cL ad zz hJ σ190 τ 0 (0) jz_0 x215 (r23.toInt + 1) tx215 I216 I194) cw_RX11_215 (jc_31 cI cL ad σ190 τ) rfl ⟨Nat.le_of_ble_eq_true rfl, Nat.le_of_ble_eq_true rfl⟩ rfl rfl rfl hl.1 rfl (Nat.le_of_ble_eq_true rfl) dX11_costOf_130 ⟨Nat.zero_le _, Nat.zero_le _⟩ (fun r218 σ217 τ217 H locs h217 hP hS => ?_)
              obtain ⟨⟨rfl, rfl⟩, w219, h217⟩ := h217
              refine lv_istore (lv' := [(6, .int r218), (8, .int r89), (7, .int 0), (5, .int r86), (4, .int r36), (3, .int r29), (2, .int r23), (0, .ref (ad 0)), (1, .int a1)]) hx hb dX11_costOf_133 hl (of_decide_eq_true rfl) rfl (fun ls hl => ?_)
              refine lv_aload_n hx hb dX11_costOf_135 rfl (lv_at hl 7 rfl) ?_
              refine va_get (D := D) hx hb hts inlX11 hown hK hP 0 (jc_0 cI cL ad σ190 τ) rfl 6 (of_decide_eq_true rfl) (hts _ kw_2_13) (fun _ h9 => h9) rfl dX11_costOf_136 ?_
              refine lv_iconst (v := 0) hx hb dX11_costOf_139 (of_decide_eq_true rfl) ?_
              refine lv_iload_n hx hb dX11_costOf_140 rfl (lv_at hl 6 rfl) ?_
              refine jcallV (As := [.int 0, .int r23]) (rest := []) ⟨hx, hb, hml, hown, hts⟩ hK hP hA hS hZ (c_X1_valueAt_31 l D cI cL ad zz hJ σ190 τ 0 (0) jz_0 r23 (r23.toInt) rfl I216 I194) cw_RX11_215 (jc_31 cI cL ad σ190 τ) rfl ⟨Nat.le_of_ble_eq_true rfl, Nat.le_of_ble_eq_true rfl⟩ rfl rfl rfl hl.1 rfl (Nat.le_of_ble_eq_true rfl) dX11_costOf_141 ⟨Nat.zero_le _, Nat.zero_le _⟩ (fun r221 σ220 τ220 H locs h220 hP hS => ?_)
              obtain ⟨⟨rfl, rfl⟩, w222, h220⟩ := h220
              refine lv_istore (lv' := [(7, .int r221), (6, .int r218), (8, .int r89), (5, .int r86), (4, .int r36), (3, .int r29), (2, .int r23), (0, .ref (ad 0)), (1, .int a1)]) hx hb dX11_costOf_144 hl (of_decide_eq_true rfl) rfl (fun ls hl => ?_)
              refine lv_aload_n hx hb dX11_costOf_146 rfl (lv_at hl 7 rfl) ?_
              refine va_get (D := D) hx hb hts inlX11 hown hK hP 0 (jc_0 cI cL ad σ190 τ) rfl 2 (of_decide_eq_true rfl) (hts _ kw_2_0) (fun _ h9 => h9) rfl dX11_costOf_147 ?_
              refine lv_iload_n hx hb dX11_costOf_150 rfl (lv_at hl 6 rfl) ?_
              refine jcallV (As := [.int r23]) (rest := []) ⟨hx, hb, hml, hown, hts⟩ hK hP hA hS hZ (c_X6_sortAt_16 l D cI cL ad zz hJ σ190 τ r23 (r23.toInt) rfl I216) cw_RX11_149 (jc_16 cI cL ad σ190 τ) rfl ⟨Nat.le_of_ble_eq_true rfl, Nat.le_of_ble_eq_true rfl⟩ rfl rfl rfl hl.1 rfl (Nat.le_of_ble_eq_true rfl) dX11_costOf_151 ⟨Nat.zero_le _, Nat.zero_le _⟩ (fun r224 σ223 τ223 H locs h223 hP hS => ?_)
              obtain ⟨⟨rfl, rfl⟩, h223⟩ := h223
              rcases h223 with h225 | h226
              · obtain ⟨q229, k227, k228⟩ := h225
                have z230 : (σ190 17 r23.toNatClampNeg).toInt = (σ 17 r23.toNatClampNeg).toInt := by rw [f192 17 (of_decide_eq_true rfl), f62 17 (of_decide_eq_true rfl), f46 17 (of_decide_eq_true rfl)]
                exact by
                 have q231 : r224 = (σ 17 r23.toNatClampNeg) := q229.trans (by rw [f192 17 (of_decide_eq_true rfl), f62 17 (of_decide_eq_true rfl), f46 17 (of_decide_eq_true rfl)])
                 have q231e : (σ190 17 r23.toNatClampNeg).toInt = (σ 17 r23.toNatClampNeg).toInt := by rw [← q229, ← q231]
                 have q231 := q231.symm
                 subst q231
                 refine lv_istore (lv' := [(9, .int (σ 17 r23.toNatClampNeg)), (7, .int r221), (6, .int r218), (8, .int r89), (5, .int r86), (4, .int r36), (3, .int r29), (2, .int r23), (0, .ref (ad 0)), (1, .int a1)]) hx hb dX11_costOf_154 hl (of_decide_eq_true rfl) rfl (fun ls hl => ?_)
                 refine lv_iload_n hx hb dX11_costOf_156 rfl (lv_at hl 6 rfl) ?_
                 refine lv_iload hx hb dX11_costOf_157 (lv_at hl 5 rfl) ?_
                 refine jcallS (As := [.int r29, .int r36]) (rest := []) ⟨hx, hb, hml, hown, hts⟩ hK hP hA hS hZ (c_X0_steps l D cI cL ad zz hJ σ190 τ r29 (r29.toInt) rfl r36 (r36.toInt) rfl) cw_RX11_346 ⟨Nat.le_of_ble_eq_true rfl, Nat.le_of_ble_eq_true rfl⟩ rfl rfl rfl hl.1 rfl (Nat.le_of_ble_eq_true rfl) dX11_costOf_159 ⟨Nat.zero_le _, Nat.zero_le _⟩ (fun r233 σ232 τ232 H locs h232 hP hS => ?_)
                 obtain ⟨⟨rfl, rfl⟩, w234, h232⟩ := h232
                 have k235 := congrArg Int32.toInt w234
                 have h236 := h232
                 obtain ⟨q238, k237⟩ := h236
                 refine lv_istore (lv' := [(10, .int r233), (9, .int (σ 17 r23.toNatClampNeg)), (7, .int r221), (6, .int r218), (8, .int r89), (5, .int r86), (4, .int r36), (3, .int r29), (2, .int r23), (0, .ref (ad 0)), (1, .int a1)]) hx hb dX11_costOf_162 hl (of_decide_eq_true rfl) rfl (fun ls hl => ?_)
                 refine lv_aload_n hx hb dX11_costOf_164 rfl (lv_at hl 9 rfl) ?_
                 refine va_get (D := D) hx hb hts inlX11 hown hK hP 0 (jc_0 cI cL ad σ190 τ) rfl 5 (of_decide_eq_true rfl) (hts _ kw_2_9) (fun _ h9 => h9) rfl dX11_costOf_165 ?_
                 refine lv_iload hx hb dX11_costOf_168 (lv_at hl 6 rfl) ?_
                 refine lv_iload hx hb dX11_costOf_170 (lv_at hl 1 rfl) ?_
                 refine lv_iload hx hb dX11_costOf_172 (lv_at hl 0 rfl) ?_
                 refine lv_aload_n hx hb dX11_costOf_174 rfl (lv_at hl 9 rfl) ?_
                 refine va_get (D := D) hx hb hts inlX11 hown hK hP 0 (jc_0 cI cL ad σ190 τ) rfl 9 (of_decide_eq_true rfl) (hts _ kw_3_1) (fun _ h9 => h9) rfl dX11_costOf_175 ?_
                 refine lv_iload_n hx hb dX11_costOf_178 rfl (lv_at hl 10 rfl) ?_
                 refine lv_iload hx hb dX11_costOf_179 (lv_at hl 6 rfl) ?_
                 refine lv_aload_n hx hb dX11_costOf_181 rfl (lv_at hl 9 rfl) ?_
                 refine va_get (D := D) hx hb hts inlX11 hown hK hP 0 (jc_0 cI cL ad σ190 τ) rfl 0 (of_decide_eq_true rfl) (hts _ kw_1_16) (fun _ h9 => h9) rfl dX11_costOf_182 ?_
                 have I239 : jI47 σ190 := jI47_fr ((congrFun (f192 47 (of_decide_eq_true rfl)) 0).trans ((congrFun (f62 47 (of_decide_eq_true rfl)) 0).trans (congrFun (f46 47 (of_decide_eq_true rfl)) 0))) ((f192 48 (of_decide_eq_true rfl)).trans ((f62 48 (of_decide_eq_true rfl)).trans (f46 48 (of_decide_eq_true rfl)))) ((f192 49 (of_decide_eq_true rfl)).trans ((f62 49 (of_decide_eq_true rfl)).trans (f46 49 (of_decide_eq_true rfl)))) hI47
                 have p240 : jOk3 σ190 := jOk3.fr ((f192 3 (of_decide_eq_true rfl)).trans ((f62 3 (of_decide_eq_true rfl)).trans (f46 3 (of_decide_eq_true rfl)))) hs_jOk3
                 exact by
                  refine jcallV (As := [.int a1, .int r36, .ref (ad 2)]) (rest := [.int r233, .int (σ 17 r23.toNatClampNeg), .int r36, .ref (ad 26)]) ⟨hx, hb, hml, hown, hts⟩ hK hP hA hS hZ (c_X2_leftAhead_47 l D cI cL ad zz hJ σ190 τ a1 (A1) t1 r36 (r36.toInt) rfl I239 p240 (by omega)) cw_RX11_349 (jc_47 cI cL ad σ190 τ) rfl ⟨Nat.le_of_ble_eq_true rfl, Nat.le_of_ble_eq_true rfl⟩ rfl rfl rfl hl.1 rfl (Nat.le_of_ble_eq_true rfl) dX11_costOf_185 ⟨Nat.zero_le _, Nat.zero_le _⟩ (fun r242 σ241 τ241 H locs h241 hP hS => ?_)
                  obtain ⟨⟨rfl, rfl⟩, h241⟩ := h241
                  have h243 := h241
                  obtain ⟨q245, k244⟩ := h243
                  refine lv_iload_n hx hb dX11_costOf_188 rfl (lv_at hl 10 rfl) ?_
                  refine lv_iload_n hx hb dX11_costOf_189 rfl (lv_at hl 8 rfl) ?_
                  have I246 : jI22 σ190 := jI22_fr (congrFun (f192 22 (of_decide_eq_true rfl)) 0) (f192 23 (of_decide_eq_true rfl)) I187
                  have I247 : jI26 σ190 := jI26_fr (congrFun (f192 26 (of_decide_eq_true rfl)) 6) I188
                  refine jcallV (As := [.int r36, .int (σ 17 r23.toNatClampNeg), .int r233, .int r242, .int a1, .int r23]) (rest := []) ⟨hx, hb, hml, hown, hts⟩ hK hP hA hS hZ (c_X5_outOf_26 l D cI cL ad zz hJ σ190 τ r36 (r36.toInt) rfl (σ 17 r23.toNatClampNeg) ((σ 17 r23.toNatClampNeg).toInt) rfl r233 (r233.toInt) rfl r242 (r242.toInt) rfl a1 (A1) t1 r23 (r23.toInt) rfl I246 I247 p195 p196 (by omega) (by omega) (by omega) (by omega) (by omega) (by omega)) cw_RX11_166 (jc_26 cI cL ad σ190 τ) rfl ⟨Nat.le_of_ble_eq_true rfl, Nat.le_of_ble_eq_true rfl⟩ rfl rfl rfl hl.1 rfl (Nat.le_of_ble_eq_true rfl) dX11_costOf_190 ⟨Nat.zero_le _, Nat.zero_le _⟩ (fun r249 σ248 τ248 H locs h248 hP hS => ?_)
                  exact by
                   obtain ⟨rfl, f250, p251, p252, w253, h248⟩ := h248
                   refine lv_istore (lv' := [(11, .int r249), (10, .int r233), (9, .int (σ 17 r23.toNatClampNeg)), (7, .int r221), (6, .int r218), (8, .int r89), (5, .int r86), (4, .int r36), (3, .int r29), (2, .int r23), (0, .ref (ad 0)), (1, .int a1)]) hx hb dX11_costOf_193 hl (of_decide_eq_true rfl) rfl (fun ls hl => ?_)
                   refine lv_aload_n hx hb dX11_costOf_195 rfl (lv_at hl 10 rfl) ?_
                   refine va_get (D := D) hx hb hts inlX11 hown hK hP 0 (jc_0 cI cL ad σ248 τ) rfl 2 (of_decide_eq_true rfl) (hts _ kw_2_0) (fun _ h9 => h9) rfl dX11_costOf_196 ?_
                   refine lv_aload_n hx hb dX11_costOf_199 rfl (lv_at hl 10 rfl) ?_
                   refine va_get (D := D) hx hb hts inlX11 hown hK hP 0 (jc_0 cI cL ad σ248 τ) rfl 5 (of_decide_eq_true rfl) (hts _ kw_2_9) (fun _ h9 => h9) rfl dX11_costOf_200 ?_
                   refine lv_iload hx hb dX11_costOf_203 (lv_at hl 7 rfl) ?_
                   refine lv_iload hx hb dX11_costOf_205 (lv_at hl 2 rfl) ?_
                   refine lv_iload hx hb dX11_costOf_207 (lv_at hl 1 rfl) ?_
                   exact by
                    refine jcallV (As := [.int r36, .int (σ 17 r23.toNatClampNeg), .int r233]) (rest := [.ref (ad 16)]) ⟨hx, hb, hml, hown, hts⟩ hK hP hA hS hZ (c_X5_runsOf_26 l D cI cL ad zz hJ σ248 τ r36 (r36.toInt) rfl (σ 17 r23.toNatClampNeg) ((σ 17 r23.toNatClampNeg).toInt) rfl r233 (r233.toInt) rfl (by omega) (by omega) (by omega)) cw_RX11_160 (jc_26 cI cL ad σ248 τ) rfl ⟨Nat.le_of_ble_eq_true rfl, Nat.le_of_ble_eq_true rfl⟩ rfl rfl rfl hl.1 rfl (Nat.le_of_ble_eq_true rfl) dX11_costOf_209 ⟨Nat.zero_le _, Nat.zero_le _⟩ (fun r256 σ255 τ255 H locs h255 hP hS => ?_)
                    obtain ⟨⟨rfl, rfl⟩, w257, h255⟩ := h255
                    refine lv_iload hx hb dX11_costOf_212 (lv_at hl 0 rfl) ?_
                    refine lv_iload hx hb dX11_costOf_214 (lv_at hl 4 rfl) ?_
                    refine lv_iload hx hb dX11_costOf_216 (lv_at hl 3 rfl) ?_
                    refine jcallV (As := [.int r256, .int r249, .int r218, .int r221]) (rest := []) ⟨hx, hb, hml, hown, hts⟩ hK hP hA hS hZ (c_X6_meanOf_16 l D cI cL ad zz hJ σ248 τ r256 (r256.toInt) rfl r249 (r249.toInt) rfl r218 (r218.toInt) rfl r221 (r221.toInt) rfl) cw_RX11_353 (jc_16 cI cL ad σ248 τ) rfl ⟨Nat.le_of_ble_eq_true rfl, Nat.le_of_ble_eq_true rfl⟩ rfl rfl rfl hl.1 rfl (Nat.le_of_ble_eq_true rfl) dX11_costOf_218 ⟨Nat.zero_le _, Nat.zero_le _⟩ (fun r259 σ258 τ258 H locs h258 hP hS => ?_)
                    obtain ⟨⟨rfl, rfl⟩, w260, h258⟩ := h258
                    refine lv_iload hx hb dX11_costOf_221 (lv_at hl 6 rfl) ?_
                    have g261 := jrg (rfl : r259.toInt = r259.toInt)
                    have g262 := jrg (rfl : r86.toInt = r86.toInt)
                    refine lv_isub hx hb dX11_costOf_223 ?_
                    refine lv_topi (fun x263 ex263 => ?_)
                    have gx263 := jrg (rfl : x263.toInt = x263.toInt)
                    have I264 : jI31 σ248 := jI31_fr (congrFun (f250 31 (of_decide_eq_true rfl)) 8) (congrFun (f250 31 (of_decide_eq_true rfl)) 10) (congrFun (f250 31 (of_decide_eq_true rfl)) 11) (f250 33 (of_decide_eq_true rfl)) (f250 35 (of_decide_eq_true rfl)) (f250 36 (of_decide_eq_true rfl)) I194
                    have p265 : jOk3 σ248 := jOk3.fr (f250 3 (of_decide_eq_true rfl)) p240
                    have p266 : jKb σ248 := jKb.fr (congrFun (f250 31 (of_decide_eq_true rfl)) 8) (congrFun (f250 31 (of_decide_eq_true rfl)) 11) (f250 32 (of_decide_eq_true rfl)) p197
                    have p267 : jKh σ248 := jKh.fr (congrFun (f250 31 (of_decide_eq_true rfl)) 8) (f250 32 (of_decide_eq_true rfl)) (f250 36 (of_decide_eq_true rfl)) (f250 37 (of_decide_eq_true rfl)) p198
                    have p268 : jKg σ248 := jKg.fr (congrFun (f250 31 (of_decide_eq_true rfl)) 8) (congrFun (f250 31 (of_decide_eq_true rfl)) 9) (congrFun (f250 31 (of_decide_eq_true rfl)) 11) (congrFun (f250 31 (of_decide_eq_true rfl)) 12) (f250 32 (of_decide_eq_true rfl)) (f250 33 (of_decide_eq_true rfl)) p199
                    have p269 : jNz σ248 := jNz.fr (f250 34 (of_decide_eq_true rfl)) p200
                    exact hret x263 σ248 τ _ _ _ _ rfl ⟨rfl, (fun i hi => ((f250 i (imp_143 i hi)).trans ((f192 i (imp_132 i hi)).trans ((f62 i (imp_132 i hi)).trans (f46 i (imp_131 i hi)))))), (fun i hi => ((congrFun (f250 31 (of_decide_eq_true rfl)) i).trans ((f193 i hi).trans ((f63 i hi).trans (congrFun (f46 31 (of_decide_eq_true rfl)) i))))), I264, p265, p251, p252, p266, p267, p268, p269, trivial⟩ hP hS dX11_costOf_224
              · obtain ⟨q271, k270⟩ := h226
                have z272 : (σ190 17 r23.toNatClampNeg).toInt = (σ 17 r23.toNatClampNeg).toInt := by rw [f192 17 (of_decide_eq_true rfl), f62 17 (of_decide_eq_true rfl), f46 17 (of_decide_eq_true rfl)]
                have q271 := q271.symm
                subst q271
                refine lv_istore (lv' := [(9, .int 0), (7, .int r221), (6, .int r218), (8, .int r89), (5, .int r86), (4, .int r36), (3, .int r29), (2, .int r23), (0, .ref (ad 0)), (1, .int a1)]) hx hb dX11_costOf_154 hl (of_decide_eq_true rfl) rfl (fun ls hl => ?_)
                refine lv_iload_n hx hb dX11_costOf_156 rfl (lv_at hl 6 rfl) ?_
                refine lv_iload hx hb dX11_costOf_157 (lv_at hl 5 rfl) ?_
                refine jcallS (As := [.int r29, .int r36]) (rest := []) ⟨hx, hb, hml, hown, hts⟩ hK hP hA hS hZ (c_X0_steps l D cI cL ad zz hJ σ190 τ r29 (r29.toInt) rfl r36 (r36.toInt) rfl) cw_RX11_346 ⟨Nat.le_of_ble_eq_true rfl, Nat.le_of_ble_eq_true rfl⟩ rfl rfl rfl hl.1 rfl (Nat.le_of_ble_eq_true rfl) dX11_costOf_159 ⟨Nat.zero_le _, Nat.zero_le _⟩ (fun r274 σ273 τ273 H locs h273 hP hS => ?_)
                obtain ⟨⟨rfl, rfl⟩, w275, h273⟩ := h273
                have k276 := congrArg Int32.toInt w275
                have h277 := h273
                obtain ⟨q279, k278⟩ := h277
                refine lv_istore (lv' := [(10, .int r274), (9, .int 0), (7, .int r221), (6, .int r218), (8, .int r89), (5, .int r86), (4, .int r36), (3, .int r29), (2, .int r23), (0, .ref (ad 0)), (1, .int a1)]) hx hb dX11_costOf_162 hl (of_decide_eq_true rfl) rfl (fun ls hl => ?_)
                refine lv_aload_n hx hb dX11_costOf_164 rfl (lv_at hl 9 rfl) ?_
                refine va_get (D := D) hx hb hts inlX11 hown hK hP 0 (jc_0 cI cL ad σ190 τ) rfl 5 (of_decide_eq_true rfl) (hts _ kw_2_9) (fun _ h9 => h9) rfl dX11_costOf_165 ?_
                refine lv_iload hx hb dX11_costOf_168 (lv_at hl 6 rfl) ?_
                refine lv_iload hx hb dX11_costOf_170 (lv_at hl 1 rfl) ?_
                refine lv_iload hx hb dX11_costOf_172 (lv_at hl 0 rfl) ?_
                refine lv_aload_n hx hb dX11_costOf_174 rfl (lv_at hl 9 rfl) ?_
                refine va_get (D := D) hx hb hts inlX11 hown hK hP 0 (jc_0 cI cL ad σ190 τ) rfl 9 (of_decide_eq_true rfl) (hts _ kw_3_1) (fun _ h9 => h9) rfl dX11_costOf_175 ?_
                refine lv_iload_n hx hb dX11_costOf_178 rfl (lv_at hl 10 rfl) ?_
                refine lv_iload hx hb dX11_costOf_179 (lv_at hl 6 rfl) ?_
                refine lv_aload_n hx hb dX11_costOf_181 rfl (lv_at hl 9 rfl) ?_
                refine va_get (D := D) hx hb hts inlX11 hown hK hP 0 (jc_0 cI cL ad σ190 τ) rfl 0 (of_decide_eq_true rfl) (hts _ kw_1_16) (fun _ h9 => h9) rfl dX11_costOf_182 ?_
                have I280 : jI47 σ190 := jI47_fr ((congrFun (f192 47 (of_decide_eq_true rfl)) 0).trans ((congrFun (f62 47 (of_decide_eq_true rfl)) 0).trans (congrFun (f46 47 (of_decide_eq_true rfl)) 0))) ((f192 48 (of_decide_eq_true rfl)).trans ((f62 48 (of_decide_eq_true rfl)).trans (f46 48 (of_decide_eq_true rfl)))) ((f192 49 (of_decide_eq_true rfl)).trans ((f62 49 (of_decide_eq_true rfl)).trans (f46 49 (of_decide_eq_true rfl)))) hI47
                have p281 : jOk3 σ190 := jOk3.fr ((f192 3 (of_decide_eq_true rfl)).trans ((f62 3 (of_decide_eq_true rfl)).trans (f46 3 (of_decide_eq_true rfl)))) hs_jOk3
                exact by
                 refine jcallV (As := [.int a1, .int r36, .ref (ad 2)]) (rest := [.int r274, .int 0, .int r36, .ref (ad 26)]) ⟨hx, hb, hml, hown, hts⟩ hK hP hA hS hZ (c_X2_leftAhead_47 l D cI cL ad zz hJ σ190 τ a1 (A1) t1 r36 (r36.toInt) rfl I280 p281 (by omega)) cw_RX11_349 (jc_47 cI cL ad σ190 τ) rfl ⟨Nat.le_of_ble_eq_true rfl, Nat.le_of_ble_eq_true rfl⟩ rfl rfl rfl hl.1 rfl (Nat.le_of_ble_eq_true rfl) dX11_costOf_185 ⟨Nat.zero_le _, Nat.zero_le _⟩ (fun r283 σ282 τ282 H locs h282 hP hS => ?_)
                 obtain ⟨⟨rfl, rfl⟩, h282⟩ := h282
                 have h284 := h282
                 obtain ⟨q286, k285⟩ := h284
                 refine lv_iload_n hx hb dX11_costOf_188 rfl (lv_at hl 10 rfl) ?_
                 refine lv_iload_n hx hb dX11_costOf_189 rfl (lv_at hl 8 rfl) ?_
                 have I287 : jI22 σ190 := jI22_fr (congrFun (f192 22 (of_decide_eq_true rfl)) 0) (f192 23 (of_decide_eq_true rfl)) I187
                 have I288 : jI26 σ190 := jI26_fr (congrFun (f192 26 (of_decide_eq_true rfl)) 6) I188
                 refine jcallV (As := [.int r36, .int 0, .int r274, .int r283, .int a1, .int r23]) (rest := []) ⟨hx, hb, hml, hown, hts⟩ hK hP hA hS hZ (c_X5_outOf_26 l D cI cL ad zz hJ σ190 τ r36 (r36.toInt) rfl 0 (0) jz_0 r274 (r274.toInt) rfl r283 (r283.toInt) rfl a1 (A1) t1 r23 (r23.toInt) rfl I287 I288 p195 p196 (by omega) (by omega) (by omega) (by omega) (by omega) (by omega)) cw_RX11_166 (jc_26 cI cL ad σ190 τ) rfl ⟨Nat.le_of_ble_eq_true rfl, Nat.le_of_ble_eq_true rfl⟩ rfl rfl rfl hl.1 rfl (Nat.le_of_ble_eq_true rfl) dX11_costOf_190 ⟨Nat.zero_le _, Nat.zero_le _⟩ (fun r290 σ289 τ289 H locs h289 hP hS => ?_)
                 exact by
                  obtain ⟨rfl, f291, p292, p293, w294, h289⟩ := h289
                  refine lv_istore (lv' := [(11, .int r290), (10, .int r274), (9, .int 0), (7, .int r221), (6, .int r218), (8, .int r89), (5, .int r86), (4, .int r36), (3, .int r29), (2, .int r23), (0, .ref (ad 0)), (1, .int a1)]) hx hb dX11_costOf_193 hl (of_decide_eq_true rfl) rfl (fun ls hl => ?_)
                  refine lv_aload_n hx hb dX11_costOf_195 rfl (lv_at hl 10 rfl) ?_
                  refine va_get (D := D) hx hb hts inlX11 hown hK hP 0 (jc_0 cI cL ad σ289 τ) rfl 2 (of_decide_eq_true rfl) (hts _ kw_2_0) (fun _ h9 => h9) rfl dX11_costOf_196 ?_
                  refine lv_aload_n hx hb dX11_costOf_199 rfl (lv_at hl 10 rfl) ?_
                  refine va_get (D := D) hx hb hts inlX11 hown hK hP 0 (jc_0 cI cL ad σ289 τ) rfl 5 (of_decide_eq_true rfl) (hts _ kw_2_9) (fun _ h9 => h9) rfl dX11_costOf_200 ?_
                  refine lv_iload hx hb dX11_costOf_203 (lv_at hl 7 rfl) ?_
                  refine lv_iload hx hb dX11_costOf_205 (lv_at hl 2 rfl) ?_
                  refine lv_iload hx hb dX11_costOf_207 (lv_at hl 1 rfl) ?_
                  exact by
                   refine jcallV (As := [.int r36, .int 0, .int r274]) (rest := [.ref (ad 16)]) ⟨hx, hb, hml, hown, hts⟩ hK hP hA hS hZ (c_X5_runsOf_26 l D cI cL ad zz hJ σ289 τ r36 (r36.toInt) rfl 0 (0) jz_0 r274 (r274.toInt) rfl (by omega) (by omega) (by omega)) cw_RX11_160 (jc_26 cI cL ad σ289 τ) rfl ⟨Nat.le_of_ble_eq_true rfl, Nat.le_of_ble_eq_true rfl⟩ rfl rfl rfl hl.1 rfl (Nat.le_of_ble_eq_true rfl) dX11_costOf_209 ⟨Nat.zero_le _, Nat.zero_le _⟩ (fun r297 σ296 τ296 H locs h296 hP hS => ?_)
                   obtain ⟨⟨rfl, rfl⟩, w298, h296⟩ := h296
                   refine lv_iload hx hb dX11_costOf_212 (lv_at hl 0 rfl) ?_
                   refine lv_iload hx hb dX11_costOf_214 (lv_at hl 4 rfl) ?_
                   refine lv_iload hx hb dX11_costOf_216 (lv_at hl 3 rfl) ?_
                   refine jcallV (As := [.int r297, .int r290, .int r218, .int r221]) (rest := []) ⟨hx, hb, hml, hown, hts⟩ hK hP hA hS hZ (c_X6_meanOf_16 l D cI cL ad zz hJ σ289 τ r297 (r297.toInt) rfl r290 (r290.toInt) rfl r218 (r218.toInt) rfl r221 (r221.toInt) rfl) cw_RX11_353 (jc_16 cI cL ad σ289 τ) rfl ⟨Nat.le_of_ble_eq_true rfl, Nat.le_of_ble_eq_true rfl⟩ rfl rfl rfl hl.1 rfl (Nat.le_of_ble_eq_true rfl) dX11_costOf_218 ⟨Nat.zero_le _, Nat.zero_le _⟩ (fun r300 σ299 τ299 H locs h299 hP hS => ?_)
                   obtain ⟨⟨rfl, rfl⟩, w301, h299⟩ := h299
                   refine lv_iload hx hb dX11_costOf_221 (lv_at hl 6 rfl) ?_
                   have g302 := jrg (rfl : r300.toInt = r300.toInt)
                   have g303 := jrg (rfl : r86.toInt = r86.toInt)
                   refine lv_isub hx hb dX11_costOf_223 ?_
                   refine lv_topi (fun x304 ex304 => ?_)
                   have gx304 := jrg (rfl : x304.toInt = x304.toInt)
                   have I305 : jI31 σ289 := jI31_fr (congrFun (f291 31 (of_decide_eq_true rfl)) 8) (congrFun (f291 31 (of_decide_eq_true rfl)) 10) (congrFun (f291 31 (of_decide_eq_true rfl)) 11) (f291 33 (of_decide_eq_true rfl)) (f291 35 (of_decide_eq_true rfl)) (f291 36 (of_decide_eq_true rfl)) I194
                   have p306 : jOk3 σ289 := jOk3.fr (f291 3 (of_decide_eq_true rfl)) p281
                   have p307 : jKb σ289 := jKb.fr (congrFun (f291 31 (of_decide_eq_true rfl)) 8) (congrFun (f291 31 (of_decide_eq_true rfl)) 11) (f291 32 (of_decide_eq_true rfl)) p197
                   have p308 : jKh σ289 := jKh.fr (congrFun (f291 31 (of_decide_eq_true rfl)) 8) (f291 32 (of_decide_eq_true rfl)) (f291 36 (of_decide_eq_true rfl)) (f291 37 (of_decide_eq_true rfl)) p198
                   have p309 : jKg σ289 := jKg.fr (congrFun (f291 31 (of_decide_eq_true rfl)) 8) (congrFun (f291 31 (of_decide_eq_true rfl)) 9) (congrFun (f291 31 (of_decide_eq_true rfl)) 11) (congrFun (f291 31 (of_decide_eq_true rfl)) 12) (f291 32 (of_decide_eq_true rfl)) (f291 33 (of_decide_eq_true rfl)) p199
                   have p310 : jNz σ289 := jNz.fr (f291 34 (of_decide_eq_true rfl)) p200
                   exact hret x304 σ289 τ _ _ _ _ rfl ⟨rfl, (fun i hi => ((f291 i (imp_143 i hi)).trans ((f192 i (imp_132 i hi)).trans ((f62 i (imp_132 i hi)).trans (f46 i (imp_131 i hi)))))), (fun i hi => ((congrFun (f291 31 (of_decide_eq_true rfl)) i).trans ((f193 i hi).trans ((f63 i hi).trans (congrFun (f46 31 (of_decide_eq_true rfl)) i))))), I305, p306, p292, p293, p307, p308, p309, p310, trivial⟩ hP hS dX11_costOf_224
   · have kc43 := jne c43 rfl jz_0
     refine lv_iconst (v := 0) hx hb dX11_costOf_45 (of_decide_eq_true rfl) ?_
     exact hret 0 σ τ _ _ _ _ rfl ⟨rfl, (fun _ _ => rfl), (fun _ _ => rfl), hI31, hs_jOk3, hs_jN67, hs_jBl, hs_jKb, hs_jKh, hs_jKg, hs_jNz, trivial⟩ hP hS dX11_costOf_46
set_option maxHeartbeats 4000000 in
set_option maxRecDepth 100000 in
theorem dv_c_X11_row (l : Launch) (D : va_G) (cI cL : ClassId) (ad zz : Nat → Nat) (hJ : jD ad) (σ : Nat → Nat → Int32) (τ : Nat → Nat → Int64) (a1 : Int32) (A1 : Int) (t1 : a1.toInt = A1) (a2 : Int32) (A2 : Int) (t2 : a2.toInt = A2) (a3 : Int32) (A3 : Int) (t3 : a3.toInt = A3) (hI50 : jI50 σ) : jM l yX11_row cX11_row 4 (some .int) ({ frames := 2, cells := 0, slots := 0, locals := 44 }) D cI cL ad zz [.ref (ad 0), .int a1, .int a2, .int a3] σ τ (fun r σ' τ' => (∀ i : Nat, (i < 54 ∨ 54 < i) → τ' i = τ i) ∧ (∀ i : Nat, (i < 51 ∨ 53 < i) → σ' i = σ i) ∧ (jI50 σ') ∧ ((r = (-1) ∧ ((A1 < 0) ∨ (5 < A1) ∨ (A2 < 0) ∨ (4 < A2) ∨ (60 < A3)) ∧ (σ' 51 = σ 51 ∧ σ' 52 = σ 52 ∧ σ' 53 = σ 53) ∧ (τ' 54 = τ 54)) ∨ (r = (-14) ∧ (0 ≤ A1 ∧ A1 ≤ 5) ∧ (0 ≤ A2 ∧ A2 ≤ 4) ∧ (A3 < 0) ∧ (σ' 51 = σ 51 ∧ σ' 52 = σ 52 ∧ σ' 53 = σ 53) ∧ (τ' 54 = τ 54)) ∨ (r = 1 ∧ (0 ≤ A1 ∧ A1 ≤ 5) ∧ (0 ≤ A2 ∧ A2 ≤ 4) ∧ (0 ≤ A3 ∧ A3 ≤ 60) ∧ (σ' 51 = jupd (σ 51) (A1).toNat a2 ∧ σ' 52 = jupd (σ 52) (A1).toNat a3 ∧ σ' 53 = jupd (σ 53) (A1).toNat (-1)) ∧ (jFl (τ 54) (τ' 54) (60 * (A1)).toNat (A3))))) := by
  refine jM.of hJ (by decide +kernel) (nt := .int) rfl (Nat.le_of_ble_eq_true rfl) ?_
  intro p e s m args below meth c Q ls hC hret hl hP
  obtain ⟨hx, hb, hr, hml, hown, hts, hK, -, hlocks, hZ⟩ := hC
  have hown : s.vm.findClass RX11 = some m.cls := hown
  have hS : va_S (jA ad) s.heap s.heap [] := va_S.rf
  have hA : ∀ q, jA ad q → jA ad q := fun _ h => h
  have hl : lv_has ls 4 [(0, .ref (ad 0)), (1, .int a1), (2, .int a2), (3, .int a3)] := hl
  have g1 := jrg t1
  have g2 := jrg t2
  have g3 := jrg t3
  refine lv_iload_n hx hb dX11_row_0 rfl (lv_at hl 1 rfl) ?_
  refine jcallS (As := [.int a1]) (rest := []) ⟨hx, hb, hml, hown, hts⟩ hK hP hA hS hZ (c_X11_noShelf l D cI cL ad zz hJ σ τ a1 (A1) t1) cw_RX11_249 ⟨Nat.le_of_ble_eq_true rfl, Nat.le_of_ble_eq_true rfl⟩ rfl rfl rfl hl.1 rfl (Nat.le_of_ble_eq_true rfl) dX11_row_1 ⟨Nat.zero_le _, Nat.zero_le _⟩ (fun r2 σ1 τ1 H locs h1 hP hS => ?_)
  obtain ⟨⟨rfl, rfl⟩, h1⟩ := h1
  rcases h1 with h3 | h4
  · obtain ⟨q6, k5⟩ := h3
    have q6 := q6.symm
    subst q6
    refine lv_if_ne (tgt := 22) hx hb dX11_row_4 (of_decide_eq_true rfl) (fun _ => ?_) (fun c => absurd c (of_decide_eq_true rfl))
    refine lv_iconst (v := (-1)) hx hb dX11_row_22 (of_decide_eq_true rfl) ?_
    exact hret (-1) σ τ _ _ _ _ rfl ⟨(fun _ _ => rfl), (fun _ _ => rfl), hI50, Or.inl ⟨rfl, (by have h9 := jz_m1; omega), ⟨rfl, rfl, rfl⟩, rfl⟩⟩ hP hS dX11_row_23
  · obtain ⟨q8, k7⟩ := h4
    have q8 := q8.symm
    subst q8
    refine lv_if_ne (tgt := 22) hx hb dX11_row_4 (of_decide_eq_true rfl) (fun c => absurd (of_decide_eq_true rfl) c) (fun _ => ?_)
    refine lv_iload_n hx hb dX11_row_7 rfl (lv_at hl 2 rfl) ?_
    refine lv_iconst (v := 0) hx hb dX11_row_8 (of_decide_eq_true rfl) ?_
    refine lv_iconst (v := 4) hx hb dX11_row_9 (of_decide_eq_true rfl) ?_
    refine jcallS (As := [.int a2, .int 0, .int 4]) (rest := []) ⟨hx, hb, hml, hown, hts⟩ hK hP hA hS hZ (c_X11_outside l D cI cL ad zz hJ σ τ a2 (A2) t2 0 (0) jz_0 4 (4) jz_4) cw_RX11_94 ⟨Nat.le_of_ble_eq_true rfl, Nat.le_of_ble_eq_true rfl⟩ rfl rfl rfl hl.1 rfl (Nat.le_of_ble_eq_true rfl) dX11_row_10 ⟨Nat.zero_le _, Nat.zero_le _⟩ (fun r10 σ9 τ9 H locs h9 hP hS => ?_)
    obtain ⟨⟨rfl, rfl⟩, h9⟩ := h9
    rcases h9 with h11 | h12
    · obtain ⟨q14, k13⟩ := h11
      have q14 := q14.symm
      subst q14
      refine lv_if_ne (tgt := 22) hx hb dX11_row_13 (of_decide_eq_true rfl) (fun _ => ?_) (fun c => absurd c (of_decide_eq_true rfl))
      refine lv_iconst (v := (-1)) hx hb dX11_row_22 (of_decide_eq_true rfl) ?_
      exact hret (-1) σ τ _ _ _ _ rfl ⟨(fun _ _ => rfl), (fun _ _ => rfl), hI50, Or.inl ⟨rfl, (by have h9 := jz_m1; omega), ⟨rfl, rfl, rfl⟩, rfl⟩⟩ hP hS dX11_row_23
    · obtain ⟨q16, k15⟩ := h12
      have q16 := q16.symm
      subst q16
      refine lv_if_ne (tgt := 22) hx hb dX11_row_13 (of_decide_eq_true rfl) (fun c => absurd (of_decide_eq_true rfl) c) (fun _ => ?_)
      refine lv_iload_n hx hb dX11_row_16 rfl (lv_at hl 3 rfl) ?_
      refine lv_bipush (v := 60) hx hb dX11_row_17 (of_decide_eq_true rfl) ?_
      refine lv_icmp_le (tgt := 24) hx hb dX11_row_19 (of_decide_eq_true rfl) (fun c17 => ?_) (fun c17 => ?_)
      · have kc17 := jle c17 t3 jz_60
        refine lv_iload_n hx hb dX11_row_24 rfl (lv_at hl 3 rfl) ?_
        refine lv_if_ge (tgt := 31) hx hb dX11_row_25 (of_decide_eq_true rfl) (fun c18 => ?_) (fun c18 => ?_)
        · have kc18 := jle c18 jz_0 t3
          refine lv_aload_n hx hb dX11_row_31 rfl (lv_at hl 0 rfl) ?_
          refine va_get (D := D) hx hb hts inlX11 hown hK hP 0 (jc_0 cI cL ad σ τ) rfl 10 (of_decide_eq_true rfl) (hts _ kw_3_5) (fun _ h9 => h9) rfl dX11_row_32 ?_
          refine lv_iload_n hx hb dX11_row_35 rfl (lv_at hl 1 rfl) ?_
          refine lv_iload_n hx hb dX11_row_36 rfl (lv_at hl 2 rfl) ?_
          refine lv_iload_n hx hb dX11_row_37 rfl (lv_at hl 3 rfl) ?_
          exact by
           refine jcallVv (As := [.int a1, .int a2, .int a3]) (rest := []) ⟨hx, hb, hml, hown, hts⟩ hK hP hA hS hZ (c_X9_lay_50 l D cI cL ad zz hJ σ τ a1 (A1) t1 a2 (A2) t2 a3 (A3) t3 hI50 (by omega) (by omega)) cw_RX11_302 (jc_50 cI cL ad σ τ) rfl ⟨Nat.le_of_ble_eq_true rfl, Nat.le_of_ble_eq_true rfl⟩ rfl rfl rfl hl.1 rfl (Nat.le_of_ble_eq_true rfl) dX11_row_38 ⟨Nat.zero_le _, Nat.zero_le _⟩ (fun σ19 τ19 H locs h19 hP hS => ?_)
           obtain ⟨f23, f21, I22, h19⟩ := h19
           have h24 := h19
           obtain ⟨q27, k25, k26⟩ := h24
           refine lv_iconst (v := 1) hx hb dX11_row_41 (of_decide_eq_true rfl) ?_
           exact by exact hret 1 σ19 τ19 _ _ _ _ rfl ⟨(fun i hi => (f23 i hi)), (fun i hi => (f21 i hi)), I22, Or.inr (Or.inr (⟨rfl, (by have h9 := jz_1; omega), (by have h9 := jz_1; omega), (by have h9 := jz_1; omega), k25, k26⟩))⟩ hP hS dX11_row_42
        · have kc18 := jnle c18 jz_0 t3
          refine lv_bipush (v := (-14)) hx hb dX11_row_28 (of_decide_eq_true rfl) ?_
          exact by exact hret (-14) σ τ _ _ _ _ rfl ⟨(fun _ _ => rfl), (fun _ _ => rfl), hI50, Or.inr (Or.inl ⟨rfl, (by have h9 := jz_m14; omega), (by have h9 := jz_m14; omega), (by have h9 := jz_m14; omega), ⟨rfl, rfl, rfl⟩, rfl⟩)⟩ hP hS dX11_row_30
      · have kc17 := jnle c17 t3 jz_60
        refine lv_iconst (v := (-1)) hx hb dX11_row_22 (of_decide_eq_true rfl) ?_
        exact hret (-1) σ τ _ _ _ _ rfl ⟨(fun _ _ => rfl), (fun _ _ => rfl), hI50, Or.inl ⟨rfl, (by have h9 := jz_m1; omega), ⟨rfl, rfl, rfl⟩, rfl⟩⟩ hP hS dX11_row_23
set_option maxHeartbeats 4000000 in
set_option maxRecDepth 100000 in
theorem dv_c_X11_put (l : Launch) (D : va_G) (cI cL : ClassId) (ad zz : Nat → Nat) (hJ : jD ad) (σ : Nat → Nat → Int32) (τ : Nat → Nat → Int64) (a1 : Int32) (A1 : Int) (t1 : a1.toInt = A1) (a2 : Int32) (A2 : Int) (t2 : a2.toInt = A2) (a3 : Int64) (AL3 : Int) (t3 : a3.toInt = AL3) (hI50 : jI50 σ) : jM l yX11_put cX11_put 6 (some .int) ({ frames := 6, cells := 0, slots := 0, locals := 129 }) D cI cL ad zz [.ref (ad 0), .int a1, .int a2, .long a3] σ τ (fun r σ' τ' => (∀ i : Nat, (i < 54 ∨ 54 < i) → τ' i = τ i) ∧ (∀ i : Nat, (0 = 0) → σ' i = σ i) ∧ (r.toInt = jRf (A1) (A2) ((σ 51 a1.toNatClampNeg).toInt) ((σ 52 a1.toNatClampNeg).toInt)) ∧ (jPt (r.toInt) (60 * (A1) + (A2)).toNat (jCut ((σ 51 a1.toNatClampNeg).toInt) a3) (τ 54) (τ' 54)) ∧ True) := by
  refine jM.of hJ (by decide +kernel) (nt := .int) rfl (Nat.le_of_ble_eq_true rfl) ?_
  intro p e s m args below meth c Q ls hC hret hl hP
  obtain ⟨hx, hb, hr, hml, hown, hts, hK, -, hlocks, hZ⟩ := hC
  have hown : s.vm.findClass RX11 = some m.cls := hown
  have hS : va_S (jA ad) s.heap s.heap [] := va_S.rf
  have hA : ∀ q, jA ad q → jA ad q := fun _ h => h
  have hl : lv_has ls 6 [(0, .ref (ad 0)), (1, .int a1), (2, .int a2), (3, .long a3)] := hl
  have g1 := jrg t1
  have g2 := jrg t2
  have g3 := jrgL t3
  refine lv_iload_n hx hb dX11_put_0 rfl (lv_at hl 1 rfl) ?_
  refine jcallS (As := [.int a1]) (rest := []) ⟨hx, hb, hml, hown, hts⟩ hK hP hA hS hZ (c_X11_noShelf l D cI cL ad zz hJ σ τ a1 (A1) t1) cw_RX11_249 ⟨Nat.le_of_ble_eq_true rfl, Nat.le_of_ble_eq_true rfl⟩ rfl rfl rfl hl.1 rfl (Nat.le_of_ble_eq_true rfl) dX11_put_1 ⟨Nat.zero_le _, Nat.zero_le _⟩ (fun r2 σ1 τ1 H locs h1 hP hS => ?_)
  obtain ⟨⟨rfl, rfl⟩, h1⟩ := h1
  rcases h1 with h3 | h4
  · obtain ⟨q6, k5⟩ := h3
    have q6 := q6.symm
    subst q6
    refine lv_if_eq (tgt := 9) hx hb dX11_put_4 (of_decide_eq_true rfl) (fun c => absurd c (of_decide_eq_true rfl)) (fun _ => ?_)
    refine lv_iconst (v := (-1)) hx hb dX11_put_7 (of_decide_eq_true rfl) ?_
    exact by exact hret (-1) σ τ _ _ _ _ rfl ⟨(fun _ _ => rfl), (fun _ _ => rfl), (by have h9 := jz_m1; unfold jRf; (repeat' split) <;> omega), (Or.inr ⟨(by have h9 := jz_m1; omega), rfl⟩), trivial⟩ hP hS dX11_put_8
  · obtain ⟨q8, k7⟩ := h4
    have q8 := q8.symm
    subst q8
    refine lv_if_eq (tgt := 9) hx hb dX11_put_4 (of_decide_eq_true rfl) (fun _ => ?_) (fun c => absurd (of_decide_eq_true rfl) c)
    refine lv_aload_n hx hb dX11_put_9 rfl (lv_at hl 0 rfl) ?_
    refine va_get (D := D) hx hb hts inlX11 hown hK hP 0 (jc_0 cI cL ad σ τ) rfl 10 (of_decide_eq_true rfl) (hts _ kw_3_5) (fun _ h9 => h9) rfl dX11_put_10 ?_
    refine lv_iload_n hx hb dX11_put_13 rfl (lv_at hl 1 rfl) ?_
    refine lv_iload_n hx hb dX11_put_14 rfl (lv_at hl 2 rfl) ?_
    refine jcallV (As := [.int a1, .int a2]) (rest := []) ⟨hx, hb, hml, hown, hts⟩ hK hP hA hS hZ (c_X9_refusal_50 l D cI cL ad zz hJ σ τ a1 (A1) t1 a2 (A2) t2 hI50) cw_RX11_304 (jc_50 cI cL ad σ τ) rfl ⟨Nat.le_of_ble_eq_true rfl, Nat.le_of_ble_eq_true rfl⟩ rfl rfl rfl hl.1 rfl (Nat.le_of_ble_eq_true rfl) dX11_put_15 ⟨Nat.zero_le _, Nat.zero_le _⟩ (fun r10 σ9 τ9 H locs h9 hP hS => ?_)
    obtain ⟨⟨rfl, rfl⟩, h9⟩ := h9
    rcases h9 with h11 | h12 | h13 | h14
    · obtain ⟨q20, k15, k16, k17, k18, k19⟩ := h11
      have q20 := q20.symm
      subst q20
      refine lv_istore (lv' := [(5, .int 0), (0, .ref (ad 0)), (1, .int a1), (2, .int a2), (3, .long a3)]) hx hb dX11_put_18 hl (of_decide_eq_true rfl) rfl (fun ls hl => ?_)
      refine lv_iload hx hb dX11_put_20 (lv_at hl 0 rfl) ?_
      refine lv_if_ge (tgt := 28) hx hb dX11_put_22 (of_decide_eq_true rfl) (fun _ => ?_) (fun c => absurd (of_decide_eq_true rfl) c)
      refine lv_aload_n hx hb dX11_put_28 rfl (lv_at hl 1 rfl) ?_
      refine va_get (D := D) hx hb hts inlX11 hown hK hP 0 (jc_0 cI cL ad σ τ) rfl 10 (of_decide_eq_true rfl) (hts _ kw_3_5) (fun _ h9 => h9) rfl dX11_put_29 ?_
      refine lv_iload_n hx hb dX11_put_32 rfl (lv_at hl 2 rfl) ?_
      refine lv_iload_n hx hb dX11_put_33 rfl (lv_at hl 3 rfl) ?_
      refine lv_lload_n hx hb dX11_put_34 rfl (lv_at hl 4 rfl) ?_
      refine jcallVv (As := [.int a1, .int a2, .long a3]) (rest := []) ⟨hx, hb, hml, hown, hts⟩ hK hP hA hS hZ (c_X9_write_50 l D cI cL ad zz hJ σ τ a1 (A1) t1 a2 (A2) t2 a3 (AL3) t3 hI50) cw_RX11_307 (jc_50 cI cL ad σ τ) rfl ⟨Nat.le_of_ble_eq_true rfl, Nat.le_of_ble_eq_true rfl⟩ rfl rfl rfl hl.1 rfl (Nat.le_of_ble_eq_true rfl) dX11_put_35 ⟨Nat.zero_le _, Nat.zero_le _⟩ (fun σ21 τ21 H locs h21 hP hS => ?_)
      obtain ⟨f25, f23, w24, h21⟩ := h21
      refine lv_iconst (v := 1) hx hb dX11_put_38 (of_decide_eq_true rfl) ?_
      exact by exact hret 1 σ21 τ21 _ _ _ _ rfl ⟨(fun i hi => (f25 i hi)), (fun i hi => (f23 i hi)), (by have h9 := jz_1; unfold jRf; (repeat' split) <;> omega), (by rw [show (1 : Int32).toInt = jRf (A1) (A2) ((σ 51 a1.toNatClampNeg).toInt) ((σ 52 a1.toNatClampNeg).toInt) from (by have h9 := jz_1; unfold jRf; (repeat' split) <;> omega)]; exact w24), trivial⟩ hP hS dX11_put_39
    · obtain ⟨q27, k26⟩ := h12
      have q27 := q27.symm
      subst q27
      refine lv_istore (lv' := [(5, .int (-11)), (0, .ref (ad 0)), (1, .int a1), (2, .int a2), (3, .long a3)]) hx hb dX11_put_18 hl (of_decide_eq_true rfl) rfl (fun ls hl => ?_)
      refine lv_iload hx hb dX11_put_20 (lv_at hl 0 rfl) ?_
      refine lv_if_ge (tgt := 28) hx hb dX11_put_22 (of_decide_eq_true rfl) (fun c => absurd c (of_decide_eq_true rfl)) (fun _ => ?_)
      refine lv_iload hx hb dX11_put_25 (lv_at hl 0 rfl) ?_
      exact by exact hret (-11) σ τ _ _ _ _ rfl ⟨(fun _ _ => rfl), (fun _ _ => rfl), (by have h9 := jz_m11; unfold jRf; (repeat' split) <;> omega), (Or.inr ⟨(by have h9 := jz_m11; omega), rfl⟩), trivial⟩ hP hS dX11_put_27
    · obtain ⟨q30, k28, k29⟩ := h13
      have q30 := q30.symm
      subst q30
      refine lv_istore (lv' := [(5, .int (-12)), (0, .ref (ad 0)), (1, .int a1), (2, .int a2), (3, .long a3)]) hx hb dX11_put_18 hl (of_decide_eq_true rfl) rfl (fun ls hl => ?_)
      refine lv_iload hx hb dX11_put_20 (lv_at hl 0 rfl) ?_
      refine lv_if_ge (tgt := 28) hx hb dX11_put_22 (of_decide_eq_true rfl) (fun c => absurd c (of_decide_eq_true rfl)) (fun _ => ?_)
      refine lv_iload hx hb dX11_put_25 (lv_at hl 0 rfl) ?_
      exact by exact hret (-12) σ τ _ _ _ _ rfl ⟨(fun _ _ => rfl), (fun _ _ => rfl), (by have h9 := jz_m12; unfold jRf; (repeat' split) <;> omega), (Or.inr ⟨(by have h9 := jz_m12; omega), rfl⟩), trivial⟩ hP hS dX11_put_27
    · obtain ⟨q35, k31, k32, k33, k34⟩ := h14
      have q35 := q35.symm
      subst q35
      refine lv_istore (lv' := [(5, .int (-13)), (0, .ref (ad 0)), (1, .int a1), (2, .int a2), (3, .long a3)]) hx hb dX11_put_18 hl (of_decide_eq_true rfl) rfl (fun ls hl => ?_)
      refine lv_iload hx hb dX11_put_20 (lv_at hl 0 rfl) ?_
      refine lv_if_ge (tgt := 28) hx hb dX11_put_22 (of_decide_eq_true rfl) (fun c => absurd c (of_decide_eq_true rfl)) (fun _ => ?_)
      refine lv_iload hx hb dX11_put_25 (lv_at hl 0 rfl) ?_
      exact by exact hret (-13) σ τ _ _ _ _ rfl ⟨(fun _ _ => rfl), (fun _ _ => rfl), (by have h9 := jz_m13; unfold jRf; (repeat' split) <;> omega), (Or.inr ⟨(by have h9 := jz_m13; omega), rfl⟩), trivial⟩ hP hS dX11_put_27
set_option maxHeartbeats 4000000 in
set_option maxRecDepth 100000 in
theorem dv_c_X11_shift (l : Launch) (D : va_G) (cI cL : ClassId) (ad zz : Nat → Nat) (hJ : jD ad) (σ : Nat → Nat → Int32) (τ : Nat → Nat → Int64) (a1 : Int32) (A1 : Int) (t1 : a1.toInt = A1) (a2 : Int32) (A2 : Int) (t2 : a2.toInt = A2) (a3 : Int32) (A3 : Int) (t3 : a3.toInt = A3) (a4 : Int32) (A4 : Int) (t4 : a4.toInt = A4) (a5 : Int32) (A5 : Int) (t5 : a5.toInt = A5) (hI50 : jI50 σ) : jM l yX11_shift cX11_shift 7 (some .int) ({ frames := 5, cells := 0, slots := 0, locals := 108 }) D cI cL ad zz [.ref (ad 0), .int a1, .int a2, .int a3, .int a4, .int a5] σ τ (fun r σ' τ' => (∀ i : Nat, (i < 54 ∨ 54 < i) → τ' i = τ i) ∧ (∀ i : Nat, (0 = 0) → σ' i = σ i) ∧ (r.toInt = jSf (A1) (A2) (A3) (A4) (A5) ((σ 51 a1.toNatClampNeg).toInt) ((σ 51 a3.toNatClampNeg).toInt) ((σ 52 a1.toNatClampNeg).toInt) ((σ 52 a3.toNatClampNeg).toInt)) ∧ (jMvL (r.toInt) (60 * (A1) + (A2)).toNat (60 * (A3) + (A4)).toNat (A5) (τ 54) (τ' 54)) ∧ True) := by
  refine jM.of hJ (by decide +kernel) (nt := .int) rfl (Nat.le_of_ble_eq_true rfl) ?_
  intro p e s m args below meth c Q ls hC hret hl hP
  obtain ⟨hx, hb, hr, hml, hown, hts, hK, -, hlocks, hZ⟩ := hC
  have hown : s.vm.findClass RX11 = some m.cls := hown
  have hS : va_S (jA ad) s.heap s.heap [] := va_S.rf
  have hA : ∀ q, jA ad q → jA ad q := fun _ h => h
  have hl : lv_has ls 7 [(0, .ref (ad 0)), (1, .int a1), (2, .int a2), (3, .int a3), (4, .int a4), (5, .int a5)] := hl
  have g1 := jrg t1
  have g2 := jrg t2
  have g3 := jrg t3
  have g4 := jrg t4
  have g5 := jrg t5
  refine lv_iload_n hx hb dX11_shift_0 rfl (lv_at hl 1 rfl) ?_
  refine jcallS (As := [.int a1]) (rest := []) ⟨hx, hb, hml, hown, hts⟩ hK hP hA hS hZ (c_X11_noShelf l D cI cL ad zz hJ σ τ a1 (A1) t1) cw_RX11_249 ⟨Nat.le_of_ble_eq_true rfl, Nat.le_of_ble_eq_true rfl⟩ rfl rfl rfl hl.1 rfl (Nat.le_of_ble_eq_true rfl) dX11_shift_1 ⟨Nat.zero_le _, Nat.zero_le _⟩ (fun r2 σ1 τ1 H locs h1 hP hS => ?_)
  obtain ⟨⟨rfl, rfl⟩, h1⟩ := h1
  rcases h1 with h3 | h4
  · obtain ⟨q6, k5⟩ := h3
    have q6 := q6.symm
    subst q6
    refine lv_if_ne (tgt := 14) hx hb dX11_shift_4 (of_decide_eq_true rfl) (fun _ => ?_) (fun c => absurd c (of_decide_eq_true rfl))
    refine lv_iconst (v := (-1)) hx hb dX11_shift_14 (of_decide_eq_true rfl) ?_
    exact by exact hret (-1) σ τ _ _ _ _ rfl ⟨(fun _ _ => rfl), (fun _ _ => rfl), (by have h9 := jz_m1; unfold jSf; (repeat' split) <;> omega), (Or.inr ⟨(by have h9 := jz_m1; omega), rfl⟩), trivial⟩ hP hS dX11_shift_15
  · obtain ⟨q8, k7⟩ := h4
    have q8 := q8.symm
    subst q8
    refine lv_if_ne (tgt := 14) hx hb dX11_shift_4 (of_decide_eq_true rfl) (fun c => absurd (of_decide_eq_true rfl) c) (fun _ => ?_)
    refine lv_iload_n hx hb dX11_shift_7 rfl (lv_at hl 3 rfl) ?_
    refine jcallS (As := [.int a3]) (rest := []) ⟨hx, hb, hml, hown, hts⟩ hK hP hA hS hZ (c_X11_noShelf l D cI cL ad zz hJ σ τ a3 (A3) t3) cw_RX11_249 ⟨Nat.le_of_ble_eq_true rfl, Nat.le_of_ble_eq_true rfl⟩ rfl rfl rfl hl.1 rfl (Nat.le_of_ble_eq_true rfl) dX11_shift_8 ⟨Nat.zero_le _, Nat.zero_le _⟩ (fun r10 σ9 τ9 H locs h9 hP hS => ?_)
    obtain ⟨⟨rfl, rfl⟩, h9⟩ := h9
    rcases h9 with h11 | h12
    · obtain ⟨q14, k13⟩ := h11
      have q14 := q14.symm
      subst q14
      refine lv_if_eq (tgt := 16) hx hb dX11_shift_11 (of_decide_eq_true rfl) (fun c => absurd c (of_decide_eq_true rfl)) (fun _ => ?_)
      refine lv_iconst (v := (-1)) hx hb dX11_shift_14 (of_decide_eq_true rfl) ?_
      exact by exact hret (-1) σ τ _ _ _ _ rfl ⟨(fun _ _ => rfl), (fun _ _ => rfl), (by have h9 := jz_m1; unfold jSf; (repeat' split) <;> omega), (Or.inr ⟨(by have h9 := jz_m1; omega), rfl⟩), trivial⟩ hP hS dX11_shift_15
    · obtain ⟨q16, k15⟩ := h12
      have q16 := q16.symm
      subst q16
      refine lv_if_eq (tgt := 16) hx hb dX11_shift_11 (of_decide_eq_true rfl) (fun _ => ?_) (fun c => absurd (of_decide_eq_true rfl) c)
      refine lv_aload_n hx hb dX11_shift_16 rfl (lv_at hl 0 rfl) ?_
      refine va_get (D := D) hx hb hts inlX11 hown hK hP 0 (jc_0 cI cL ad σ τ) rfl 10 (of_decide_eq_true rfl) (hts _ kw_3_5) (fun _ h9 => h9) rfl dX11_shift_17 ?_
      refine lv_iload_n hx hb dX11_shift_20 rfl (lv_at hl 1 rfl) ?_
      refine jcallV (As := [.int a1]) (rest := []) ⟨hx, hb, hml, hown, hts⟩ hK hP hA hS hZ (c_X9_isEmpty_50 l D cI cL ad zz hJ σ τ a1 (A1) t1) cw_RX11_252 (jc_50 cI cL ad σ τ) rfl ⟨Nat.le_of_ble_eq_true rfl, Nat.le_of_ble_eq_true rfl⟩ rfl rfl rfl hl.1 rfl (Nat.le_of_ble_eq_true rfl) dX11_shift_21 ⟨Nat.zero_le _, Nat.zero_le _⟩ (fun r18 σ17 τ17 H locs h17 hP hS => ?_)
      obtain ⟨⟨rfl, rfl⟩, h17⟩ := h17
      rcases h17 with h19 | h20
      · obtain ⟨q23, k21, k22⟩ := h19
        have q23 := q23.symm
        subst q23
        refine lv_if_ne (tgt := 38) hx hb dX11_shift_24 (of_decide_eq_true rfl) (fun c => absurd (of_decide_eq_true rfl) c) (fun _ => ?_)
        refine lv_aload_n hx hb dX11_shift_27 rfl (lv_at hl 0 rfl) ?_
        refine va_get (D := D) hx hb hts inlX11 hown hK hP 0 (jc_0 cI cL ad σ τ) rfl 10 (of_decide_eq_true rfl) (hts _ kw_3_5) (fun _ h9 => h9) rfl dX11_shift_28 ?_
        refine lv_iload_n hx hb dX11_shift_31 rfl (lv_at hl 3 rfl) ?_
        refine jcallV (As := [.int a3]) (rest := []) ⟨hx, hb, hml, hown, hts⟩ hK hP hA hS hZ (c_X9_isEmpty_50 l D cI cL ad zz hJ σ τ a3 (A3) t3) cw_RX11_252 (jc_50 cI cL ad σ τ) rfl ⟨Nat.le_of_ble_eq_true rfl, Nat.le_of_ble_eq_true rfl⟩ rfl rfl rfl hl.1 rfl (Nat.le_of_ble_eq_true rfl) dX11_shift_32 ⟨Nat.zero_le _, Nat.zero_le _⟩ (fun r25 σ24 τ24 H locs h24 hP hS => ?_)
        obtain ⟨⟨rfl, rfl⟩, h24⟩ := h24
        rcases h24 with h26 | h27
        · obtain ⟨q30, k28, k29⟩ := h26
          have q30 := q30.symm
          subst q30
          refine lv_if_eq (tgt := 41) hx hb dX11_shift_35 (of_decide_eq_true rfl) (fun _ => ?_) (fun c => absurd (of_decide_eq_true rfl) c)
          refine lv_aload_n hx hb dX11_shift_41 rfl (lv_at hl 0 rfl) ?_
          refine va_get (D := D) hx hb hts inlX11 hown hK hP 0 (jc_0 cI cL ad σ τ) rfl 10 (of_decide_eq_true rfl) (hts _ kw_3_5) (fun _ h9 => h9) rfl dX11_shift_42 ?_
          refine lv_iload_n hx hb dX11_shift_45 rfl (lv_at hl 1 rfl) ?_
          refine jcallV (As := [.int a1]) (rest := []) ⟨hx, hb, hml, hown, hts⟩ hK hP hA hS hZ (c_X9_sortOf_50 l D cI cL ad zz hJ σ τ a1 (A1) t1) cw_RX11_255 (jc_50 cI cL ad σ τ) rfl ⟨Nat.le_of_ble_eq_true rfl, Nat.le_of_ble_eq_true rfl⟩ rfl rfl rfl hl.1 rfl (Nat.le_of_ble_eq_true rfl) dX11_shift_46 ⟨Nat.zero_le _, Nat.zero_le _⟩ (fun r32 σ31 τ31 H locs h31 hP hS => ?_)
          obtain ⟨⟨rfl, rfl⟩, h31⟩ := h31
          rcases h31 with h33 | h34
          · obtain ⟨q37, k35, k36⟩ := h33
            have q38 : r32 = (σ 51 a1.toNatClampNeg) := q37.trans rfl
            have q38 := q38.symm
            subst q38
            refine lv_istore (lv' := [(6, .int (σ 51 a1.toNatClampNeg)), (0, .ref (ad 0)), (1, .int a1), (2, .int a2), (3, .int a3), (4, .int a4), (5, .int a5)]) hx hb dX11_shift_49 hl (of_decide_eq_true rfl) rfl (fun ls hl => ?_)
            refine lv_iload hx hb dX11_shift_51 (lv_at hl 0 rfl) ?_
            refine lv_iconst (v := (-1)) hx hb dX11_shift_53 (of_decide_eq_true rfl) ?_
            refine lv_icmp_eq (tgt := 70) hx hb dX11_shift_54 (of_decide_eq_true rfl) (fun c39 => ?_) (fun c39 => ?_)
            · have kc39 := jeq c39 rfl jz_m1
              refine lv_bipush (v := (-12)) hx hb dX11_shift_70 (of_decide_eq_true rfl) ?_
              exact by exact hret (-12) σ τ _ _ _ _ rfl ⟨(fun _ _ => rfl), (fun _ _ => rfl), (by have h9 := jz_m12; unfold jSf; (repeat' split) <;> omega), (Or.inr ⟨(by have h9 := jz_m12; omega), rfl⟩), trivial⟩ hP hS dX11_shift_72
            · have kc39 := jne c39 rfl jz_m1
              refine lv_iload hx hb dX11_shift_57 (lv_at hl 0 rfl) ?_
              refine lv_aload_n hx hb dX11_shift_59 rfl (lv_at hl 1 rfl) ?_
              refine va_get (D := D) hx hb hts inlX11 hown hK hP 0 (jc_0 cI cL ad σ τ) rfl 10 (of_decide_eq_true rfl) (hts _ kw_3_5) (fun _ h9 => h9) rfl dX11_shift_60 ?_
              refine lv_iload_n hx hb dX11_shift_63 rfl (lv_at hl 4 rfl) ?_
              refine jcallV (As := [.int a3]) (rest := [.int (σ 51 a1.toNatClampNeg)]) ⟨hx, hb, hml, hown, hts⟩ hK hP hA hS hZ (c_X9_sortOf_50 l D cI cL ad zz hJ σ τ a3 (A3) t3) cw_RX11_255 (jc_50 cI cL ad σ τ) rfl ⟨Nat.le_of_ble_eq_true rfl, Nat.le_of_ble_eq_true rfl⟩ rfl rfl rfl hl.1 rfl (Nat.le_of_ble_eq_true rfl) dX11_shift_64 ⟨Nat.zero_le _, Nat.zero_le _⟩ (fun r41 σ40 τ40 H locs h40 hP hS => ?_)
              obtain ⟨⟨rfl, rfl⟩, h40⟩ := h40
              rcases h40 with h42 | h43
              · obtain ⟨q46, k44, k45⟩ := h42
                have q47 : r41 = (σ 51 a3.toNatClampNeg) := q46.trans rfl
                have q47 := q47.symm
                subst q47
                refine lv_icmp_eq (tgt := 73) hx hb dX11_shift_67 (of_decide_eq_true rfl) (fun c48 => ?_) (fun c48 => ?_)
                · have kc48 := jeq c48 rfl rfl
                  refine lv_iload hx hb dX11_shift_73 (lv_at hl 6 rfl) ?_
                  refine lv_if_lt (tgt := 87) hx hb dX11_shift_75 (of_decide_eq_true rfl) (fun c49 => ?_) (fun c49 => ?_)
                  · have kc49 := jlt c49 t5 jz_0
                    refine lv_bipush (v := (-13)) hx hb dX11_shift_87 (of_decide_eq_true rfl) ?_
                    exact by exact hret (-13) σ τ _ _ _ _ rfl ⟨(fun _ _ => rfl), (fun _ _ => rfl), (by have h9 := jz_m13; unfold jSf; (repeat' split) <;> omega), (Or.inr ⟨(by have h9 := jz_m13; omega), rfl⟩), trivial⟩ hP hS dX11_shift_89
                  · have kc49 := jnlt c49 t5 jz_0
                    refine lv_iload_n hx hb dX11_shift_78 rfl (lv_at hl 3 rfl) ?_
                    refine lv_if_lt (tgt := 87) hx hb dX11_shift_79 (of_decide_eq_true rfl) (fun c50 => ?_) (fun c50 => ?_)
                    · have kc50 := jlt c50 t2 jz_0
                      refine lv_bipush (v := (-13)) hx hb dX11_shift_87 (of_decide_eq_true rfl) ?_
                      exact by exact hret (-13) σ τ _ _ _ _ rfl ⟨(fun _ _ => rfl), (fun _ _ => rfl), (by have h9 := jz_m13; unfold jSf; (repeat' split) <;> omega), (Or.inr ⟨(by have h9 := jz_m13; omega), rfl⟩), trivial⟩ hP hS dX11_shift_89
                    · have kc50 := jnlt c50 t2 jz_0
                      refine lv_iload hx hb dX11_shift_82 (lv_at hl 5 rfl) ?_
                      refine lv_if_ge (tgt := 90) hx hb dX11_shift_84 (of_decide_eq_true rfl) (fun c51 => ?_) (fun c51 => ?_)
                      · have kc51 := jle c51 jz_0 t4
                        refine lv_iload hx hb dX11_shift_90 (lv_at hl 6 rfl) ?_
                        refine lv_aload_n hx hb dX11_shift_92 rfl (lv_at hl 1 rfl) ?_
                        refine va_get (D := D) hx hb hts inlX11 hown hK hP 0 (jc_0 cI cL ad σ τ) rfl 10 (of_decide_eq_true rfl) (hts _ kw_3_5) (fun _ h9 => h9) rfl dX11_shift_93 ?_
                        refine lv_iload_n hx hb dX11_shift_96 rfl (lv_at hl 2 rfl) ?_
                        refine jcallV (As := [.int a1]) (rest := [.int a5]) ⟨hx, hb, hml, hown, hts⟩ hK hP hA hS hZ (c_X9_lengthOf_50 l D cI cL ad zz hJ σ τ a1 (A1) t1 hI50) cw_RX11_258 (jc_50 cI cL ad σ τ) rfl ⟨Nat.le_of_ble_eq_true rfl, Nat.le_of_ble_eq_true rfl⟩ rfl rfl rfl hl.1 rfl (Nat.le_of_ble_eq_true rfl) dX11_shift_97 ⟨Nat.zero_le _, Nat.zero_le _⟩ (fun r53 σ52 τ52 H locs h52 hP hS => ?_)
                        obtain ⟨⟨rfl, rfl⟩, h52⟩ := h52
                        rcases h52 with h54 | h55
                        · obtain ⟨q60, k56, k57, k58, k59⟩ := h54
                          have q61 : r53 = (σ 52 a1.toNatClampNeg) := q60.trans rfl
                          have q61 := q61.symm
                          subst q61
                          refine lv_iload_n hx hb dX11_shift_100 rfl (lv_at hl 3 rfl) ?_
                          have g62 := jrg (rfl : (σ 52 a1.toNatClampNeg).toInt = (σ 52 a1.toNatClampNeg).toInt)
                          refine lv_isub hx hb dX11_shift_101 ?_
                          refine lv_topi (fun x63 ex63 => ?_)
                          exact by
                           have tx63 : x63.toInt = (σ 52 a1.toNatClampNeg).toInt - A2 := (jsub ex63 rfl t2 (by omega) (by omega)).trans (by omega)
                           refine lv_icmp_gt (tgt := 121) hx hb dX11_shift_102 (of_decide_eq_true rfl) (fun c64 => ?_) (fun c64 => ?_)
                           · have kc64 := jlt c64 tx63 t5
                             refine lv_bipush (v := (-13)) hx hb dX11_shift_121 (of_decide_eq_true rfl) ?_
                             exact by exact hret (-13) σ τ _ _ _ _ rfl ⟨(fun _ _ => rfl), (fun _ _ => rfl), (by have h9 := jz_m13; unfold jSf; (repeat' split) <;> omega), (Or.inr ⟨(by have h9 := jz_m13; omega), rfl⟩), trivial⟩ hP hS dX11_shift_123
                           · have kc64 := jnlt c64 tx63 t5
                             refine lv_iload hx hb dX11_shift_105 (lv_at hl 6 rfl) ?_
                             refine lv_aload_n hx hb dX11_shift_107 rfl (lv_at hl 1 rfl) ?_
                             refine va_get (D := D) hx hb hts inlX11 hown hK hP 0 (jc_0 cI cL ad σ τ) rfl 10 (of_decide_eq_true rfl) (hts _ kw_3_5) (fun _ h9 => h9) rfl dX11_shift_108 ?_
                             refine lv_iload_n hx hb dX11_shift_111 rfl (lv_at hl 4 rfl) ?_
                             refine jcallV (As := [.int a3]) (rest := [.int a5]) ⟨hx, hb, hml, hown, hts⟩ hK hP hA hS hZ (c_X9_lengthOf_50 l D cI cL ad zz hJ σ τ a3 (A3) t3 hI50) cw_RX11_258 (jc_50 cI cL ad σ τ) rfl ⟨Nat.le_of_ble_eq_true rfl, Nat.le_of_ble_eq_true rfl⟩ rfl rfl rfl hl.1 rfl (Nat.le_of_ble_eq_true rfl) dX11_shift_112 ⟨Nat.zero_le _, Nat.zero_le _⟩ (fun r66 σ65 τ65 H locs h65 hP hS => ?_)
                             obtain ⟨⟨rfl, rfl⟩, h65⟩ := h65
                             rcases h65 with h67 | h68
                             · obtain ⟨q73, k69, k70, k71, k72⟩ := h67
                               have q74 : r66 = (σ 52 a3.toNatClampNeg) := q73.trans rfl
                               have q74 := q74.symm
                               subst q74
                               refine lv_iload hx hb dX11_shift_115 (lv_at hl 5 rfl) ?_
                               have g75 := jrg (rfl : (σ 52 a3.toNatClampNeg).toInt = (σ 52 a3.toNatClampNeg).toInt)
                               refine lv_isub hx hb dX11_shift_117 ?_
                               refine lv_topi (fun x76 ex76 => ?_)
                               exact by
                                have tx76 : x76.toInt = (σ 52 a3.toNatClampNeg).toInt - A4 := (jsub ex76 rfl t4 (by omega) (by omega)).trans (by omega)
                                refine lv_icmp_le (tgt := 124) hx hb dX11_shift_118 (of_decide_eq_true rfl) (fun c77 => ?_) (fun c77 => ?_)
                                · have kc77 := jle c77 t5 tx76
                                  refine lv_aload_n hx hb dX11_shift_124 rfl (lv_at hl 1 rfl) ?_
                                  refine va_get (D := D) hx hb hts inlX11 hown hK hP 0 (jc_0 cI cL ad σ τ) rfl 10 (of_decide_eq_true rfl) (hts _ kw_3_5) (fun _ h9 => h9) rfl dX11_shift_125 ?_
                                  refine lv_iload_n hx hb dX11_shift_128 rfl (lv_at hl 2 rfl) ?_
                                  refine lv_iload_n hx hb dX11_shift_129 rfl (lv_at hl 3 rfl) ?_
                                  refine lv_iload_n hx hb dX11_shift_130 rfl (lv_at hl 4 rfl) ?_
                                  refine lv_iload hx hb dX11_shift_131 (lv_at hl 5 rfl) ?_
                                  refine lv_iload hx hb dX11_shift_133 (lv_at hl 6 rfl) ?_
                                  exact by
                                   refine jcallVv (As := [.int a1, .int a2, .int a3, .int a4, .int a5]) (rest := []) ⟨hx, hb, hml, hown, hts⟩ hK hP hA hS hZ (c_X9_move_50 l D cI cL ad zz hJ σ τ a1 (A1) t1 a2 (A2) t2 a3 (A3) t3 a4 (A4) t4 a5 (A5) t5 hI50 (by omega) (by omega)) cw_RX11_314 (jc_50 cI cL ad σ τ) rfl ⟨Nat.le_of_ble_eq_true rfl, Nat.le_of_ble_eq_true rfl⟩ rfl rfl rfl hl.1 rfl (Nat.le_of_ble_eq_true rfl) dX11_shift_135 ⟨Nat.zero_le _, Nat.zero_le _⟩ (fun σ78 τ78 H locs h78 hP hS => ?_)
                                   obtain ⟨f81, f80, h78⟩ := h78
                                   rcases h78 with h82 | h83
                                   · obtain ⟨q88, k84, k85, k86, k87⟩ := h82
                                     refine lv_iload hx hb dX11_shift_138 (lv_at hl 6 rfl) ?_
                                     exact by exact hret a5 σ78 τ78 _ _ _ _ rfl ⟨(fun i hi => (f81 i hi)), (fun i hi => (f80 i hi)), (by have h9 := t5; unfold jSf; (repeat' split) <;> omega), (k87.c (by omega) (by have h9 := t5; omega)), trivial⟩ hP hS dX11_shift_140
                                   · obtain ⟨q91, k89, k90⟩ := h83
                                     refine lv_iload hx hb dX11_shift_138 (lv_at hl 6 rfl) ?_
                                     exact by exact hret a5 σ78 τ78 _ _ _ _ rfl ⟨(fun i hi => (f81 i hi)), (fun i hi => (f80 i hi)), (by have h9 := t5; unfold jSf; (repeat' split) <;> omega), (False.elim (by omega)), trivial⟩ hP hS dX11_shift_140
                                · have kc77 := jnle c77 t5 tx76
                                  refine lv_bipush (v := (-13)) hx hb dX11_shift_121 (of_decide_eq_true rfl) ?_
                                  exact by exact hret (-13) σ τ _ _ _ _ rfl ⟨(fun _ _ => rfl), (fun _ _ => rfl), (by have h9 := jz_m13; unfold jSf; (repeat' split) <;> omega), (Or.inr ⟨(by have h9 := jz_m13; omega), rfl⟩), trivial⟩ hP hS dX11_shift_123
                             · obtain ⟨q93, k92⟩ := h68
                               exact absurd (by omega : False) id
                        · obtain ⟨q95, k94⟩ := h55
                          exact absurd (by omega : False) id
                      · have kc51 := jnle c51 jz_0 t4
                        refine lv_bipush (v := (-13)) hx hb dX11_shift_87 (of_decide_eq_true rfl) ?_
                        exact by exact hret (-13) σ τ _ _ _ _ rfl ⟨(fun _ _ => rfl), (fun _ _ => rfl), (by have h9 := jz_m13; unfold jSf; (repeat' split) <;> omega), (Or.inr ⟨(by have h9 := jz_m13; omega), rfl⟩), trivial⟩ hP hS dX11_shift_89
                · have kc48 := jne c48 rfl rfl
                  refine lv_bipush (v := (-12)) hx hb dX11_shift_70 (of_decide_eq_true rfl) ?_
                  exact by exact hret (-12) σ τ _ _ _ _ rfl ⟨(fun _ _ => rfl), (fun _ _ => rfl), (by have h9 := jz_m12; unfold jSf; (repeat' split) <;> omega), (Or.inr ⟨(by have h9 := jz_m12; omega), rfl⟩), trivial⟩ hP hS dX11_shift_72
              · obtain ⟨q97, k96⟩ := h43
                exact absurd (by omega : False) id
          · obtain ⟨q99, k98⟩ := h34
            exact absurd (by omega : False) id
        · obtain ⟨q101, k100⟩ := h27
          have q101 := q101.symm
          subst q101
          refine lv_if_eq (tgt := 41) hx hb dX11_shift_35 (of_decide_eq_true rfl) (fun c => absurd c (of_decide_eq_true rfl)) (fun _ => ?_)
          refine lv_bipush (v := (-11)) hx hb dX11_shift_38 (of_decide_eq_true rfl) ?_
          exact by exact hret (-11) σ τ _ _ _ _ rfl ⟨(fun _ _ => rfl), (fun _ _ => rfl), (by have h9 := jz_m11; unfold jSf; (repeat' split) <;> omega), (Or.inr ⟨(by have h9 := jz_m11; omega), rfl⟩), trivial⟩ hP hS dX11_shift_40
      · obtain ⟨q103, k102⟩ := h20
        have q103 := q103.symm
        subst q103
        refine lv_if_ne (tgt := 38) hx hb dX11_shift_24 (of_decide_eq_true rfl) (fun _ => ?_) (fun c => absurd c (of_decide_eq_true rfl))
        refine lv_bipush (v := (-11)) hx hb dX11_shift_38 (of_decide_eq_true rfl) ?_
        exact by exact hret (-11) σ τ _ _ _ _ rfl ⟨(fun _ _ => rfl), (fun _ _ => rfl), (by have h9 := jz_m11; unfold jSf; (repeat' split) <;> omega), (Or.inr ⟨(by have h9 := jz_m11; omega), rfl⟩), trivial⟩ hP hS dX11_shift_40
set_option maxHeartbeats 4000000 in
set_option maxRecDepth 100000 in
theorem dv_c_X11_taken (l : Launch) (D : va_G) (cI cL : ClassId) (ad zz : Nat → Nat) (hJ : jD ad) (σ : Nat → Nat → Int32) (τ : Nat → Nat → Int64) (a1 : Int32) (A1 : Int) (t1 : a1.toInt = A1) (a2 : Int32) (A2 : Int) (t2 : a2.toInt = A2) (hI38 : jI38 σ) : jM l yX11_taken cX11_taken 4 (some .int) ({ frames := 2, cells := 0, slots := 0, locals := 43 }) D cI cL ad zz [.ref (ad 0), .int a1, .int a2] σ τ (fun r σ' τ' => (σ = σ' ∧ τ = τ') ∧ (r.toInt = jTk (A1) (A2) ((σ 51 a1.toNatClampNeg).toInt) ((σ 53 a1.toNatClampNeg).toInt) ((σ 39 (σ 53 a1.toNatClampNeg).toNatClampNeg).toInt) ((σ 38 0).toInt)) ∧ True) := by
  refine jM.of hJ (by decide +kernel) (nt := .int) rfl (Nat.le_of_ble_eq_true rfl) ?_
  intro p e s m args below meth c Q ls hC hret hl hP
  obtain ⟨hx, hb, hr, hml, hown, hts, hK, -, hlocks, hZ⟩ := hC
  have hown : s.vm.findClass RX11 = some m.cls := hown
  have hS : va_S (jA ad) s.heap s.heap [] := va_S.rf
  have hA : ∀ q, jA ad q → jA ad q := fun _ h => h
  have hl : lv_has ls 4 [(0, .ref (ad 0)), (1, .int a1), (2, .int a2)] := hl
  have g1 := jrg t1
  have g2 := jrg t2
  obtain ⟨i1, i2, w3⟩ : (0 ≤ (σ 38 0).toInt ∧ (σ 38 0).toInt ≤ 20) ∧ (0 ≤ (σ 38 1).toInt ∧ (σ 38 1).toInt ≤ 1000) ∧ (∀ k : Nat, k < 20 → 0 ≤ (σ 39 k).toInt ∧ (σ 39 k).toInt ≤ 6) := id hI38
  refine lv_iload_n hx hb dX11_taken_0 rfl (lv_at hl 1 rfl) ?_
  refine jcallS (As := [.int a1]) (rest := []) ⟨hx, hb, hml, hown, hts⟩ hK hP hA hS hZ (c_X11_noShelf l D cI cL ad zz hJ σ τ a1 (A1) t1) cw_RX11_249 ⟨Nat.le_of_ble_eq_true rfl, Nat.le_of_ble_eq_true rfl⟩ rfl rfl rfl hl.1 rfl (Nat.le_of_ble_eq_true rfl) dX11_taken_1 ⟨Nat.zero_le _, Nat.zero_le _⟩ (fun r5 σ4 τ4 H locs h4 hP hS => ?_)
  obtain ⟨⟨rfl, rfl⟩, h4⟩ := h4
  rcases h4 with h6 | h7
  · obtain ⟨q9, k8⟩ := h6
    have q9 := q9.symm
    subst q9
    refine lv_if_ne (tgt := 17) hx hb dX11_taken_4 (of_decide_eq_true rfl) (fun _ => ?_) (fun c => absurd c (of_decide_eq_true rfl))
    refine lv_iconst (v := (-1)) hx hb dX11_taken_17 (of_decide_eq_true rfl) ?_
    exact hret (-1) σ τ _ _ _ _ rfl ⟨⟨rfl, rfl⟩, (by have h9 := jz_m1; unfold jTk; (repeat' split) <;> omega), trivial⟩ hP hS dX11_taken_18
  · obtain ⟨q11, k10⟩ := h7
    have q11 := q11.symm
    subst q11
    refine lv_if_ne (tgt := 17) hx hb dX11_taken_4 (of_decide_eq_true rfl) (fun c => absurd (of_decide_eq_true rfl) c) (fun _ => ?_)
    refine lv_iload_n hx hb dX11_taken_7 rfl (lv_at hl 2 rfl) ?_
    refine lv_iconst (v := 0) hx hb dX11_taken_8 (of_decide_eq_true rfl) ?_
    refine lv_bipush (v := 6) hx hb dX11_taken_9 (of_decide_eq_true rfl) ?_
    refine jcallS (As := [.int a2, .int 0, .int 6]) (rest := []) ⟨hx, hb, hml, hown, hts⟩ hK hP hA hS hZ (c_X11_outside l D cI cL ad zz hJ σ τ a2 (A2) t2 0 (0) jz_0 6 (6) jz_6) cw_RX11_94 ⟨Nat.le_of_ble_eq_true rfl, Nat.le_of_ble_eq_true rfl⟩ rfl rfl rfl hl.1 rfl (Nat.le_of_ble_eq_true rfl) dX11_taken_11 ⟨Nat.zero_le _, Nat.zero_le _⟩ (fun r13 σ12 τ12 H locs h12 hP hS => ?_)
    obtain ⟨⟨rfl, rfl⟩, h12⟩ := h12
    rcases h12 with h14 | h15
    · obtain ⟨q17, k16⟩ := h14
      have q17 := q17.symm
      subst q17
      refine lv_if_eq (tgt := 19) hx hb dX11_taken_14 (of_decide_eq_true rfl) (fun c => absurd c (of_decide_eq_true rfl)) (fun _ => ?_)
      refine lv_iconst (v := (-1)) hx hb dX11_taken_17 (of_decide_eq_true rfl) ?_
      exact hret (-1) σ τ _ _ _ _ rfl ⟨⟨rfl, rfl⟩, (by have h9 := jz_m1; unfold jTk; (repeat' split) <;> omega), trivial⟩ hP hS dX11_taken_18
    · obtain ⟨q19, k18⟩ := h15
      have q19 := q19.symm
      subst q19
      refine lv_if_eq (tgt := 19) hx hb dX11_taken_14 (of_decide_eq_true rfl) (fun _ => ?_) (fun c => absurd (of_decide_eq_true rfl) c)
      refine lv_aload_n hx hb dX11_taken_19 rfl (lv_at hl 0 rfl) ?_
      refine va_get (D := D) hx hb hts inlX11 hown hK hP 0 (jc_0 cI cL ad σ τ) rfl 10 (of_decide_eq_true rfl) (hts _ kw_3_5) (fun _ h9 => h9) rfl dX11_taken_20 ?_
      refine lv_iload_n hx hb dX11_taken_23 rfl (lv_at hl 1 rfl) ?_
      refine jcallV (As := [.int a1]) (rest := []) ⟨hx, hb, hml, hown, hts⟩ hK hP hA hS hZ (c_X9_isEmpty_50 l D cI cL ad zz hJ σ τ a1 (A1) t1) cw_RX11_252 (jc_50 cI cL ad σ τ) rfl ⟨Nat.le_of_ble_eq_true rfl, Nat.le_of_ble_eq_true rfl⟩ rfl rfl rfl hl.1 rfl (Nat.le_of_ble_eq_true rfl) dX11_taken_24 ⟨Nat.zero_le _, Nat.zero_le _⟩ (fun r21 σ20 τ20 H locs h20 hP hS => ?_)
      obtain ⟨⟨rfl, rfl⟩, h20⟩ := h20
      rcases h20 with h22 | h23
      · obtain ⟨q26, k24, k25⟩ := h22
        have q26 := q26.symm
        subst q26
        refine lv_if_eq (tgt := 33) hx hb dX11_taken_27 (of_decide_eq_true rfl) (fun _ => ?_) (fun c => absurd (of_decide_eq_true rfl) c)
        refine lv_aload_n hx hb dX11_taken_33 rfl (lv_at hl 0 rfl) ?_
        refine va_get (D := D) hx hb hts inlX11 hown hK hP 0 (jc_0 cI cL ad σ τ) rfl 10 (of_decide_eq_true rfl) (hts _ kw_3_5) (fun _ h9 => h9) rfl dX11_taken_34 ?_
        refine lv_iload_n hx hb dX11_taken_37 rfl (lv_at hl 1 rfl) ?_
        refine jcallV (As := [.int a1]) (rest := []) ⟨hx, hb, hml, hown, hts⟩ hK hP hA hS hZ (c_X9_ruleOn_50 l D cI cL ad zz hJ σ τ a1 (A1) t1) cw_RX11_318 (jc_50 cI cL ad σ τ) rfl ⟨Nat.le_of_ble_eq_true rfl, Nat.le_of_ble_eq_true rfl⟩ rfl rfl rfl hl.1 rfl (Nat.le_of_ble_eq_true rfl) dX11_taken_38 ⟨Nat.zero_le _, Nat.zero_le _⟩ (fun r28 σ27 τ27 H locs h27 hP hS => ?_)
        obtain ⟨⟨rfl, rfl⟩, h27⟩ := h27
        rcases h27 with h29 | h30
        · obtain ⟨q32, k31⟩ := h29
          have q33 : r28 = (σ 53 a1.toNatClampNeg) := q32.trans rfl
          have q33 := q33.symm
          subst q33
          refine lv_istore_n (lv' := [(3, .int (σ 53 a1.toNatClampNeg)), (0, .ref (ad 0)), (1, .int a1), (2, .int a2)]) hx hb dX11_taken_41 rfl hl (of_decide_eq_true rfl) rfl (fun ls hl => ?_)
          refine lv_iload_n hx hb dX11_taken_42 rfl (lv_at hl 0 rfl) ?_
          refine lv_if_lt (tgt := 61) hx hb dX11_taken_43 (of_decide_eq_true rfl) (fun c34 => ?_) (fun c34 => ?_)
          · have kc34 := jlt c34 rfl jz_0
            refine lv_bipush (v := (-12)) hx hb dX11_taken_61 (of_decide_eq_true rfl) ?_
            exact hret (-12) σ τ _ _ _ _ rfl ⟨⟨rfl, rfl⟩, (by have h9 := jz_m12; unfold jTk; (repeat' split) <;> omega), trivial⟩ hP hS dX11_taken_63
          · have kc34 := jnlt c34 rfl jz_0
            refine lv_aload_n hx hb dX11_taken_46 rfl (lv_at hl 1 rfl) ?_
            refine va_get (D := D) hx hb hts inlX11 hown hK hP 0 (jc_0 cI cL ad σ τ) rfl 7 (of_decide_eq_true rfl) (hts _ kw_2_17) (fun _ h9 => h9) rfl dX11_taken_47 ?_
            refine lv_iload_n hx hb dX11_taken_50 rfl (lv_at hl 0 rfl) ?_
            refine jcallV (As := [.int (σ 53 a1.toNatClampNeg)]) (rest := []) ⟨hx, hb, hml, hown, hts⟩ hK hP hA hS hZ (c_X8_kindOf_e l D cI cL ad zz hJ σ τ (σ 53 a1.toNatClampNeg) ((σ 53 a1.toNatClampNeg).toInt) rfl hI38) cw_RX11_183 (jc_38 cI cL ad σ τ) rfl ⟨Nat.le_of_ble_eq_true rfl, Nat.le_of_ble_eq_true rfl⟩ rfl rfl rfl hl.1 rfl (Nat.le_of_ble_eq_true rfl) dX11_taken_51 ⟨Nat.zero_le _, Nat.zero_le _⟩ (fun r36 σ35 τ35 H locs h35 hP hS => ?_)
            obtain ⟨⟨rfl, rfl⟩, h35⟩ := h35
            rcases h35 with h37 | h38
            · obtain ⟨q42, k39, k40, k41⟩ := h37
              have q43 : r36 = (σ 39 (σ 53 a1.toNatClampNeg).toNatClampNeg) := q42.trans rfl
              have q43 := q43.symm
              subst q43
              refine lv_iload_n hx hb dX11_taken_54 rfl (lv_at hl 3 rfl) ?_
              by_cases c44 : (σ 39 (σ 53 a1.toNatClampNeg).toNatClampNeg) = 0
              · have kc44 := jeq c44 (rfl : (σ 39 (σ 53 a1.toNatClampNeg).toNatClampNeg).toInt = (σ 39 (σ 53 a1.toNatClampNeg).toNatClampNeg).toInt) jz_0
                rw [c44]
                refine jcallS (As := [.int 0, .int a2]) (rest := []) ⟨hx, hb, hml, hown, hts⟩ hK hP hA hS hZ (c_X8_isUnder_0 l D cI cL ad zz hJ σ τ a2 (A2) t2) cw_RX11_321 ⟨Nat.le_of_ble_eq_true rfl, Nat.le_of_ble_eq_true rfl⟩ rfl rfl rfl hl.1 rfl (Nat.le_of_ble_eq_true rfl) dX11_taken_55 ⟨Nat.zero_le _, Nat.zero_le _⟩ (fun r46 σ45 τ45 H locs h45 hP hS => ?_)
                obtain ⟨⟨rfl, rfl⟩, h45⟩ := h45
                rcases h45 with h47 | h48
                · obtain ⟨q50, k49⟩ := h47
                  have q50 := q50.symm
                  subst q50
                  refine lv_if_ne (tgt := 64) hx hb dX11_taken_58 (of_decide_eq_true rfl) (fun _ => ?_) (fun c => absurd c (of_decide_eq_true rfl))
                  refine lv_aload_n hx hb dX11_taken_64 rfl (lv_at hl 1 rfl) ?_
                  refine va_get (D := D) hx hb hts inlX11 hown hK hP 0 (jc_0 cI cL ad σ τ) rfl 7 (of_decide_eq_true rfl) (hts _ kw_2_17) (fun _ h9 => h9) rfl dX11_taken_65 ?_
                  refine lv_iload_n hx hb dX11_taken_68 rfl (lv_at hl 0 rfl) ?_
                  refine jcallV (As := [.int (σ 53 a1.toNatClampNeg)]) (rest := []) ⟨hx, hb, hml, hown, hts⟩ hK hP hA hS hZ (c_X8_kindOf_e l D cI cL ad zz hJ σ τ (σ 53 a1.toNatClampNeg) ((σ 53 a1.toNatClampNeg).toInt) rfl hI38) cw_RX11_183 (jc_38 cI cL ad σ τ) rfl ⟨Nat.le_of_ble_eq_true rfl, Nat.le_of_ble_eq_true rfl⟩ rfl rfl rfl hl.1 rfl (Nat.le_of_ble_eq_true rfl) dX11_taken_69 ⟨Nat.zero_le _, Nat.zero_le _⟩ (fun r52 σ51 τ51 H locs h51 hP hS => ?_)
                  obtain ⟨⟨rfl, rfl⟩, h51⟩ := h51
                  rcases h51 with h53 | h54
                  · obtain ⟨q58, k55, k56, k57⟩ := h53
                    have q59 : r52 = (σ 39 (σ 53 a1.toNatClampNeg).toNatClampNeg) := q58.trans rfl
                    have q59 := q59.symm
                    subst q59
                    exact hret (σ 39 (σ 53 a1.toNatClampNeg).toNatClampNeg) σ τ _ _ _ _ rfl ⟨⟨rfl, rfl⟩, (by unfold jTk; (repeat' split) <;> omega), trivial⟩ hP hS dX11_taken_72
                  · obtain ⟨q61, k60⟩ := h54
                    exact absurd (by omega : False) id
                · obtain ⟨q63, k62⟩ := h48
                  have q63 := q63.symm
                  subst q63
                  refine lv_if_ne (tgt := 64) hx hb dX11_taken_58 (of_decide_eq_true rfl) (fun c => absurd (of_decide_eq_true rfl) c) (fun _ => ?_)
                  refine lv_bipush (v := (-12)) hx hb dX11_taken_61 (of_decide_eq_true rfl) ?_
                  exact hret (-12) σ τ _ _ _ _ rfl ⟨⟨rfl, rfl⟩, (by have h9 := jz_m12; unfold jTk; (repeat' split) <;> omega), trivial⟩ hP hS dX11_taken_63
              have kc44 := jne c44 (rfl : (σ 39 (σ 53 a1.toNatClampNeg).toNatClampNeg).toInt = (σ 39 (σ 53 a1.toNatClampNeg).toNatClampNeg).toInt) jz_0
              by_cases c64 : (σ 39 (σ 53 a1.toNatClampNeg).toNatClampNeg) = 1
              · have kc64 := jeq c64 (rfl : (σ 39 (σ 53 a1.toNatClampNeg).toNatClampNeg).toInt = (σ 39 (σ 53 a1.toNatClampNeg).toNatClampNeg).toInt) jz_1
                rw [c64]
                refine jcallS (As := [.int 1, .int a2]) (rest := []) ⟨hx, hb, hml, hown, hts⟩ hK hP hA hS hZ (c_X8_isUnder_1 l D cI cL ad zz hJ σ τ a2 (A2) t2) cw_RX11_321 ⟨Nat.le_of_ble_eq_true rfl, Nat.le_of_ble_eq_true rfl⟩ rfl rfl rfl hl.1 rfl (Nat.le_of_ble_eq_true rfl) dX11_taken_55 ⟨Nat.zero_le _, Nat.zero_le _⟩ (fun r66 σ65 τ65 H locs h65 hP hS => ?_)
                obtain ⟨⟨rfl, rfl⟩, h65⟩ := h65
                rcases h65 with h67 | h68
                · obtain ⟨q70, k69⟩ := h67
                  have q70 := q70.symm
                  subst q70
                  refine lv_if_ne (tgt := 64) hx hb dX11_taken_58 (of_decide_eq_true rfl) (fun _ => ?_) (fun c => absurd c (of_decide_eq_true rfl))
                  refine lv_aload_n hx hb dX11_taken_64 rfl (lv_at hl 1 rfl) ?_
                  refine va_get (D := D) hx hb hts inlX11 hown hK hP 0 (jc_0 cI cL ad σ τ) rfl 7 (of_decide_eq_true rfl) (hts _ kw_2_17) (fun _ h9 => h9) rfl dX11_taken_65 ?_
                  refine lv_iload_n hx hb dX11_taken_68 rfl (lv_at hl 0 rfl) ?_
                  refine jcallV (As := [.int (σ 53 a1.toNatClampNeg)]) (rest := []) ⟨hx, hb, hml, hown, hts⟩ hK hP hA hS hZ (c_X8_kindOf_e l D cI cL ad zz hJ σ τ (σ 53 a1.toNatClampNeg) ((σ 53 a1.toNatClampNeg).toInt) rfl hI38) cw_RX11_183 (jc_38 cI cL ad σ τ) rfl ⟨Nat.le_of_ble_eq_true rfl, Nat.le_of_ble_eq_true rfl⟩ rfl rfl rfl hl.1 rfl (Nat.le_of_ble_eq_true rfl) dX11_taken_69 ⟨Nat.zero_le _, Nat.zero_le _⟩ (fun r72 σ71 τ71 H locs h71 hP hS => ?_)
                  obtain ⟨⟨rfl, rfl⟩, h71⟩ := h71
                  rcases h71 with h73 | h74
                  · obtain ⟨q78, k75, k76, k77⟩ := h73
                    have q79 : r72 = (σ 39 (σ 53 a1.toNatClampNeg).toNatClampNeg) := q78.trans rfl
                    have q79 := q79.symm
                    subst q79
                    exact hret (σ 39 (σ 53 a1.toNatClampNeg).toNatClampNeg) σ τ _ _ _ _ rfl ⟨⟨rfl, rfl⟩, (by unfold jTk; (repeat' split) <;> omega), trivial⟩ hP hS dX11_taken_72
                  · obtain ⟨q81, k80⟩ := h74
                    exact absurd (by omega : False) id
                · obtain ⟨q84, k82, k83⟩ := h68
                  have q84 := q84.symm
                  subst q84
                  refine lv_if_ne (tgt := 64) hx hb dX11_taken_58 (of_decide_eq_true rfl) (fun c => absurd (of_decide_eq_true rfl) c) (fun _ => ?_)
                  refine lv_bipush (v := (-12)) hx hb dX11_taken_61 (of_decide_eq_true rfl) ?_
                  exact hret (-12) σ τ _ _ _ _ rfl ⟨⟨rfl, rfl⟩, (by have h9 := jz_m12; unfold jTk; (repeat' split) <;> omega), trivial⟩ hP hS dX11_taken_63
              have kc64 := jne c64 (rfl : (σ 39 (σ 53 a1.toNatClampNeg).toNatClampNeg).toInt = (σ 39 (σ 53 a1.toNatClampNeg).toNatClampNeg).toInt) jz_1
              by_cases c85 : (σ 39 (σ 53 a1.toNatClampNeg).toNatClampNeg) = 2
              · have kc85 := jeq c85 (rfl : (σ 39 (σ 53 a1.toNatClampNeg).toNatClampNeg).toInt = (σ 39 (σ 53 a1.toNatClampNeg).toNatClampNeg).toInt) jz_2
                rw [c85]
                refine jcallS (As := [.int 2, .int a2]) (rest := []) ⟨hx, hb, hml, hown, hts⟩ hK hP hA hS hZ (c_X8_isUnder_2 l D cI cL ad zz hJ σ τ a2 (A2) t2) cw_RX11_321 ⟨Nat.le_of_ble_eq_true rfl, Nat.le_of_ble_eq_true rfl⟩ rfl rfl rfl hl.1 rfl (Nat.le_of_ble_eq_true rfl) dX11_taken_55 ⟨Nat.zero_le _, Nat.zero_le _⟩ (fun r87 σ86 τ86 H locs h86 hP hS => ?_)
                obtain ⟨⟨rfl, rfl⟩, h86⟩ := h86
                rcases h86 with h88 | h89
                · obtain ⟨q91, k90⟩ := h88
                  have q91 := q91.symm
                  subst q91
                  refine lv_if_ne (tgt := 64) hx hb dX11_taken_58 (of_decide_eq_true rfl) (fun _ => ?_) (fun c => absurd c (of_decide_eq_true rfl))
                  refine lv_aload_n hx hb dX11_taken_64 rfl (lv_at hl 1 rfl) ?_
                  refine va_get (D := D) hx hb hts inlX11 hown hK hP 0 (jc_0 cI cL ad σ τ) rfl 7 (of_decide_eq_true rfl) (hts _ kw_2_17) (fun _ h9 => h9) rfl dX11_taken_65 ?_
                  refine lv_iload_n hx hb dX11_taken_68 rfl (lv_at hl 0 rfl) ?_
                  refine jcallV (As := [.int (σ 53 a1.toNatClampNeg)]) (rest := []) ⟨hx, hb, hml, hown, hts⟩ hK hP hA hS hZ (c_X8_kindOf_e l D cI cL ad zz hJ σ τ (σ 53 a1.toNatClampNeg) ((σ 53 a1.toNatClampNeg).toInt) rfl hI38) cw_RX11_183 (jc_38 cI cL ad σ τ) rfl ⟨Nat.le_of_ble_eq_true rfl, Nat.le_of_ble_eq_true rfl⟩ rfl rfl rfl hl.1 rfl (Nat.le_of_ble_eq_true rfl) dX11_taken_69 ⟨Nat.zero_le _, Nat.zero_le _⟩ (fun r93 σ92 τ92 H locs h92 hP hS => ?_)
                  obtain ⟨⟨rfl, rfl⟩, h92⟩ := h92
                  rcases h92 with h94 | h95
                  · obtain ⟨q99, k96, k97, k98⟩ := h94
                    have q100 : r93 = (σ 39 (σ 53 a1.toNatClampNeg).toNatClampNeg) := q99.trans rfl
                    have q100 := q100.symm
                    subst q100
                    exact hret (σ 39 (σ 53 a1.toNatClampNeg).toNatClampNeg) σ τ _ _ _ _ rfl ⟨⟨rfl, rfl⟩, (by unfold jTk; (repeat' split) <;> omega), trivial⟩ hP hS dX11_taken_72
                  · obtain ⟨q102, k101⟩ := h95
                    exact absurd (by omega : False) id
                · obtain ⟨q105, k103, k104⟩ := h89
                  have q105 := q105.symm
                  subst q105
                  refine lv_if_ne (tgt := 64) hx hb dX11_taken_58 (of_decide_eq_true rfl) (fun c => absurd (of_decide_eq_true rfl) c) (fun _ => ?_)
                  refine lv_bipush (v := (-12)) hx hb dX11_taken_61 (of_decide_eq_true rfl) ?_
                  exact hret (-12) σ τ _ _ _ _ rfl ⟨⟨rfl, rfl⟩, (by have h9 := jz_m12; unfold jTk; (repeat' split) <;> omega), trivial⟩ hP hS dX11_taken_63
              have kc85 := jne c85 (rfl : (σ 39 (σ 53 a1.toNatClampNeg).toNatClampNeg).toInt = (σ 39 (σ 53 a1.toNatClampNeg).toNatClampNeg).toInt) jz_2
              by_cases c106 : (σ 39 (σ 53 a1.toNatClampNeg).toNatClampNeg) = 3
              · have kc106 := jeq c106 (rfl : (σ 39 (σ 53 a1.toNatClampNeg).toNatClampNeg).toInt = (σ 39 (σ 53 a1.toNatClampNeg).toNatClampNeg).toInt) jz_3
                rw [c106]
                refine jcallS (As := [.int 3, .int a2]) (rest := []) ⟨hx, hb, hml, hown, hts⟩ hK hP hA hS hZ (c_X8_isUnder_3 l D cI cL ad zz hJ σ τ a2 (A2) t2) cw_RX11_321 ⟨Nat.le_of_ble_eq_true rfl, Nat.le_of_ble_eq_true rfl⟩ rfl rfl rfl hl.1 rfl (Nat.le_of_ble_eq_true rfl) dX11_taken_55 ⟨Nat.zero_le _, Nat.zero_le _⟩ (fun r108 σ107 τ107 H locs h107 hP hS => ?_)
                obtain ⟨⟨rfl, rfl⟩, h107⟩ := h107
                rcases h107 with h109 | h110
                · obtain ⟨q112, k111⟩ := h109
                  have q112 := q112.symm
                  subst q112
                  refine lv_if_ne (tgt := 64) hx hb dX11_taken_58 (of_decide_eq_true rfl) (fun _ => ?_) (fun c => absurd c (of_decide_eq_true rfl))
                  refine lv_aload_n hx hb dX11_taken_64 rfl (lv_at hl 1 rfl) ?_
                  refine va_get (D := D) hx hb hts inlX11 hown hK hP 0 (jc_0 cI cL ad σ τ) rfl 7 (of_decide_eq_true rfl) (hts _ kw_2_17) (fun _ h9 => h9) rfl dX11_taken_65 ?_
                  refine lv_iload_n hx hb dX11_taken_68 rfl (lv_at hl 0 rfl) ?_
                  refine jcallV (As := [.int (σ 53 a1.toNatClampNeg)]) (rest := []) ⟨hx, hb, hml, hown, hts⟩ hK hP hA hS hZ (c_X8_kindOf_e l D cI cL ad zz hJ σ τ (σ 53 a1.toNatClampNeg) ((σ 53 a1.toNatClampNeg).toInt) rfl hI38) cw_RX11_183 (jc_38 cI cL ad σ τ) rfl ⟨Nat.le_of_ble_eq_true rfl, Nat.le_of_ble_eq_true rfl⟩ rfl rfl rfl hl.1 rfl (Nat.le_of_ble_eq_true rfl) dX11_taken_69 ⟨Nat.zero_le _, Nat.zero_le _⟩ (fun r114 σ113 τ113 H locs h113 hP hS => ?_)
                  obtain ⟨⟨rfl, rfl⟩, h113⟩ := h113
                  rcases h113 with h115 | h116
                  · obtain ⟨q120, k117, k118, k119⟩ := h115
                    have q121 : r114 = (σ 39 (σ 53 a1.toNatClampNeg).toNatClampNeg) := q120.trans rfl
                    have q121 := q121.symm
                    subst q121
                    exact hret (σ 39 (σ 53 a1.toNatClampNeg).toNatClampNeg) σ τ _ _ _ _ rfl ⟨⟨rfl, rfl⟩, (by unfold jTk; (repeat' split) <;> omega), trivial⟩ hP hS dX11_taken_72
                  · obtain ⟨q123, k122⟩ := h116
                    exact absurd (by omega : False) id
                · obtain ⟨q127, k124, k125, k126⟩ := h110
                  have q127 := q127.symm
                  subst q127
                  refine lv_if_ne (tgt := 64) hx hb dX11_taken_58 (of_decide_eq_true rfl) (fun c => absurd (of_decide_eq_true rfl) c) (fun _ => ?_)
                  refine lv_bipush (v := (-12)) hx hb dX11_taken_61 (of_decide_eq_true rfl) ?_
                  exact hret (-12) σ τ _ _ _ _ rfl ⟨⟨rfl, rfl⟩, (by have h9 := jz_m12; unfold jTk; (repeat' split) <;> omega), trivial⟩ hP hS dX11_taken_63
              have kc106 := jne c106 (rfl : (σ 39 (σ 53 a1.toNatClampNeg).toNatClampNeg).toInt = (σ 39 (σ 53 a1.toNatClampNeg).toNatClampNeg).toInt) jz_3
              by_cases c128 : (σ 39 (σ 53 a1.toNatClampNeg).toNatClampNeg) = 4
              · have kc128 := jeq c128 (rfl : (σ 39 (σ 53 a1.toNatClampNeg).toNatClampNeg).toInt = (σ 39 (σ 53 a1.toNatClampNeg).toNatClampNeg).toInt) jz_4
                rw [c128]
                refine jcallS (As := [.int 4, .int a2]) (rest := []) ⟨hx, hb, hml, hown, hts⟩ hK hP hA hS hZ (c_X8_isUnder_4 l D cI cL ad zz hJ σ τ a2 (A2) t2) cw_RX11_321 ⟨Nat.le_of_ble_eq_true rfl, Nat.le_of_ble_eq_true rfl⟩ rfl rfl rfl hl.1 rfl (Nat.le_of_ble_eq_true rfl) dX11_taken_55 ⟨Nat.zero_le _, Nat.zero_le _⟩ (fun r130 σ129 τ129 H locs h129 hP hS => ?_)
                obtain ⟨⟨rfl, rfl⟩, h129⟩ := h129
                rcases h129 with h131 | h132
                · obtain ⟨q134, k133⟩ := h131
                  have q134 := q134.symm
                  subst q134
                  refine lv_if_ne (tgt := 64) hx hb dX11_taken_58 (of_decide_eq_true rfl) (fun _ => ?_) (fun c => absurd c (of_decide_eq_true rfl))
                  refine lv_aload_n hx hb dX11_taken_64 rfl (lv_at hl 1 rfl) ?_
                  refine va_get (D := D) hx hb hts inlX11 hown hK hP 0 (jc_0 cI cL ad σ τ) rfl 7 (of_decide_eq_true rfl) (hts _ kw_2_17) (fun _ h9 => h9) rfl dX11_taken_65 ?_
                  refine lv_iload_n hx hb dX11_taken_68 rfl (lv_at hl 0 rfl) ?_
                  refine jcallV (As := [.int (σ 53 a1.toNatClampNeg)]) (rest := []) ⟨hx, hb, hml, hown, hts⟩ hK hP hA hS hZ (c_X8_kindOf_e l D cI cL ad zz hJ σ τ (σ 53 a1.toNatClampNeg) ((σ 53 a1.toNatClampNeg).toInt) rfl hI38) cw_RX11_183 (jc_38 cI cL ad σ τ) rfl ⟨Nat.le_of_ble_eq_true rfl, Nat.le_of_ble_eq_true rfl⟩ rfl rfl rfl hl.1 rfl (Nat.le_of_ble_eq_true rfl) dX11_taken_69 ⟨Nat.zero_le _, Nat.zero_le _⟩ (fun r136 σ135 τ135 H locs h135 hP hS => ?_)
                  obtain ⟨⟨rfl, rfl⟩, h135⟩ := h135
                  rcases h135 with h137 | h138
                  · obtain ⟨q142, k139, k140, k141⟩ := h137
                    have q143 : r136 = (σ 39 (σ 53 a1.toNatClampNeg).toNatClampNeg) := q142.trans rfl
                    have q143 := q143.symm
                    subst q143
                    exact hret (σ 39 (σ 53 a1.toNatClampNeg).toNatClampNeg) σ τ _ _ _ _ rfl ⟨⟨rfl, rfl⟩, (by unfold jTk; (repeat' split) <;> omega), trivial⟩ hP hS dX11_taken_72
                  · obtain ⟨q145, k144⟩ := h138
                    exact absurd (by omega : False) id
                · obtain ⟨q149, k146, k147, k148⟩ := h132
                  have q149 := q149.symm
                  subst q149
                  refine lv_if_ne (tgt := 64) hx hb dX11_taken_58 (of_decide_eq_true rfl) (fun c => absurd (of_decide_eq_true rfl) c) (fun _ => ?_)
                  refine lv_bipush (v := (-12)) hx hb dX11_taken_61 (of_decide_eq_true rfl) ?_
                  exact hret (-12) σ τ _ _ _ _ rfl ⟨⟨rfl, rfl⟩, (by have h9 := jz_m12; unfold jTk; (repeat' split) <;> omega), trivial⟩ hP hS dX11_taken_63
              have kc128 := jne c128 (rfl : (σ 39 (σ 53 a1.toNatClampNeg).toNatClampNeg).toInt = (σ 39 (σ 53 a1.toNatClampNeg).toNatClampNeg).toInt) jz_4
              by_cases c150 : (σ 39 (σ 53 a1.toNatClampNeg).toNatClampNeg) = 5
              · have kc150 := jeq c150 (rfl : (σ 39 (σ 53 a1.toNatClampNeg).toNatClampNeg).toInt = (σ 39 (σ 53 a1.toNatClampNeg).toNatClampNeg).toInt) jz_5
                rw [c150]
                refine jcallS (As := [.int 5, .int a2]) (rest := []) ⟨hx, hb, hml, hown, hts⟩ hK hP hA hS hZ (c_X8_isUnder_5 l D cI cL ad zz hJ σ τ a2 (A2) t2) cw_RX11_321 ⟨Nat.le_of_ble_eq_true rfl, Nat.le_of_ble_eq_true rfl⟩ rfl rfl rfl hl.1 rfl (Nat.le_of_ble_eq_true rfl) dX11_taken_55 ⟨Nat.zero_le _, Nat.zero_le _⟩ (fun r152 σ151 τ151 H locs h151 hP hS => ?_)
                obtain ⟨⟨rfl, rfl⟩, h151⟩ := h151
                rcases h151 with h153 | h154
                · obtain ⟨q156, k155⟩ := h153
                  have q156 := q156.symm
                  subst q156
                  refine lv_if_ne (tgt := 64) hx hb dX11_taken_58 (of_decide_eq_true rfl) (fun _ => ?_) (fun c => absurd c (of_decide_eq_true rfl))
                  refine lv_aload_n hx hb dX11_taken_64 rfl (lv_at hl 1 rfl) ?_
                  refine va_get (D := D) hx hb hts inlX11 hown hK hP 0 (jc_0 cI cL ad σ τ) rfl 7 (of_decide_eq_true rfl) (hts _ kw_2_17) (fun _ h9 => h9) rfl dX11_taken_65 ?_
                  refine lv_iload_n hx hb dX11_taken_68 rfl (lv_at hl 0 rfl) ?_
                  refine jcallV (As := [.int (σ 53 a1.toNatClampNeg)]) (rest := []) ⟨hx, hb, hml, hown, hts⟩ hK hP hA hS hZ (c_X8_kindOf_e l D cI cL ad zz hJ σ τ (σ 53 a1.toNatClampNeg) ((σ 53 a1.toNatClampNeg).toInt) rfl hI38) cw_RX11_183 (jc_38 cI cL ad σ τ) rfl ⟨Nat.le_of_ble_eq_true rfl, Nat.le_of_ble_eq_true rfl⟩ rfl rfl rfl hl.1 rfl (Nat.le_of_ble_eq_true rfl) dX11_taken_69 ⟨Nat.zero_le _, Nat.zero_le _⟩ (fun r158 σ157 τ157 H locs h157 hP hS => ?_)
                  obtain ⟨⟨rfl, rfl⟩, h157⟩ := h157
                  rcases h157 with h159 | h160
                  · obtain ⟨q164, k161, k162, k163⟩ := h159
                    have q165 : r158 = (σ 39 (σ 53 a1.toNatClampNeg).toNatClampNeg) := q164.trans rfl
                    have q165 := q165.symm
                    subst q165
                    exact hret (σ 39 (σ 53 a1.toNatClampNeg).toNatClampNeg) σ τ _ _ _ _ rfl ⟨⟨rfl, rfl⟩, (by unfold jTk; (repeat' split) <;> omega), trivial⟩ hP hS dX11_taken_72
                  · obtain ⟨q167, k166⟩ := h160
                    exact absurd (by omega : False) id
                · obtain ⟨q172, k168, k169, k170, k171⟩ := h154
                  have q172 := q172.symm
                  subst q172
                  refine lv_if_ne (tgt := 64) hx hb dX11_taken_58 (of_decide_eq_true rfl) (fun c => absurd (of_decide_eq_true rfl) c) (fun _ => ?_)
                  refine lv_bipush (v := (-12)) hx hb dX11_taken_61 (of_decide_eq_true rfl) ?_
                  exact hret (-12) σ τ _ _ _ _ rfl ⟨⟨rfl, rfl⟩, (by have h9 := jz_m12; unfold jTk; (repeat' split) <;> omega), trivial⟩ hP hS dX11_taken_63
              have kc150 := jne c150 (rfl : (σ 39 (σ 53 a1.toNatClampNeg).toNatClampNeg).toInt = (σ 39 (σ 53 a1.toNatClampNeg).toNatClampNeg).toInt) jz_5
              by_cases c173 : (σ 39 (σ 53 a1.toNatClampNeg).toNatClampNeg) = 6
              · have kc173 := jeq c173 (rfl : (σ 39 (σ 53 a1.toNatClampNeg).toNatClampNeg).toInt = (σ 39 (σ 53 a1.toNatClampNeg).toNatClampNeg).toInt) jz_6
                rw [c173]
                refine jcallS (As := [.int 6, .int a2]) (rest := []) ⟨hx, hb, hml, hown, hts⟩ hK hP hA hS hZ (c_X8_isUnder_6 l D cI cL ad zz hJ σ τ a2 (A2) t2) cw_RX11_321 ⟨Nat.le_of_ble_eq_true rfl, Nat.le_of_ble_eq_true rfl⟩ rfl rfl rfl hl.1 rfl (Nat.le_of_ble_eq_true rfl) dX11_taken_55 ⟨Nat.zero_le _, Nat.zero_le _⟩ (fun r175 σ174 τ174 H locs h174 hP hS => ?_)
                obtain ⟨⟨rfl, rfl⟩, h174⟩ := h174
                rcases h174 with h176 | h177
                · obtain ⟨q179, k178⟩ := h176
                  have q179 := q179.symm
                  subst q179
                  refine lv_if_ne (tgt := 64) hx hb dX11_taken_58 (of_decide_eq_true rfl) (fun _ => ?_) (fun c => absurd c (of_decide_eq_true rfl))
                  refine lv_aload_n hx hb dX11_taken_64 rfl (lv_at hl 1 rfl) ?_
                  refine va_get (D := D) hx hb hts inlX11 hown hK hP 0 (jc_0 cI cL ad σ τ) rfl 7 (of_decide_eq_true rfl) (hts _ kw_2_17) (fun _ h9 => h9) rfl dX11_taken_65 ?_
                  refine lv_iload_n hx hb dX11_taken_68 rfl (lv_at hl 0 rfl) ?_
                  refine jcallV (As := [.int (σ 53 a1.toNatClampNeg)]) (rest := []) ⟨hx, hb, hml, hown, hts⟩ hK hP hA hS hZ (c_X8_kindOf_e l D cI cL ad zz hJ σ τ (σ 53 a1.toNatClampNeg) ((σ 53 a1.toNatClampNeg).toInt) rfl hI38) cw_RX11_183 (jc_38 cI cL ad σ τ) rfl ⟨Nat.le_of_ble_eq_true rfl, Nat.le_of_ble_eq_true rfl⟩ rfl rfl rfl hl.1 rfl (Nat.le_of_ble_eq_true rfl) dX11_taken_69 ⟨Nat.zero_le _, Nat.zero_le _⟩ (fun r181 σ180 τ180 H locs h180 hP hS => ?_)
                  obtain ⟨⟨rfl, rfl⟩, h180⟩ := h180
                  rcases h180 with h182 | h183
                  · obtain ⟨q187, k184, k185, k186⟩ := h182
                    have q188 : r181 = (σ 39 (σ 53 a1.toNatClampNeg).toNatClampNeg) := q187.trans rfl
                    have q188 := q188.symm
                    subst q188
                    exact hret (σ 39 (σ 53 a1.toNatClampNeg).toNatClampNeg) σ τ _ _ _ _ rfl ⟨⟨rfl, rfl⟩, (by unfold jTk; (repeat' split) <;> omega), trivial⟩ hP hS dX11_taken_72
                  · obtain ⟨q190, k189⟩ := h183
                    exact absurd (by omega : False) id
                · obtain ⟨q193, k191, k192⟩ := h177
                  have q193 := q193.symm
                  subst q193
                  refine lv_if_ne (tgt := 64) hx hb dX11_taken_58 (of_decide_eq_true rfl) (fun c => absurd (of_decide_eq_true rfl) c) (fun _ => ?_)
                  refine lv_bipush (v := (-12)) hx hb dX11_taken_61 (of_decide_eq_true rfl) ?_
                  exact hret (-12) σ τ _ _ _ _ rfl ⟨⟨rfl, rfl⟩, (by have h9 := jz_m12; unfold jTk; (repeat' split) <;> omega), trivial⟩ hP hS dX11_taken_63
              have kc173 := jne c173 (rfl : (σ 39 (σ 53 a1.toNatClampNeg).toNatClampNeg).toInt = (σ 39 (σ 53 a1.toNatClampNeg).toNatClampNeg).toInt) jz_6
              exact absurd (by omega : False) id
            · obtain ⟨q195, k194⟩ := h38
              have q195 := q195.symm
              subst q195
              refine lv_iload_n hx hb dX11_taken_54 rfl (lv_at hl 3 rfl) ?_
              refine jcallS (As := [.int 0, .int a2]) (rest := []) ⟨hx, hb, hml, hown, hts⟩ hK hP hA hS hZ (c_X8_isUnder_0 l D cI cL ad zz hJ σ τ a2 (A2) t2) cw_RX11_321 ⟨Nat.le_of_ble_eq_true rfl, Nat.le_of_ble_eq_true rfl⟩ rfl rfl rfl hl.1 rfl (Nat.le_of_ble_eq_true rfl) dX11_taken_55 ⟨Nat.zero_le _, Nat.zero_le _⟩ (fun r197 σ196 τ196 H locs h196 hP hS => ?_)
              obtain ⟨⟨rfl, rfl⟩, h196⟩ := h196
              rcases h196 with h198 | h199
              · obtain ⟨q201, k200⟩ := h198
                have q201 := q201.symm
                subst q201
                refine lv_if_ne (tgt := 64) hx hb dX11_taken_58 (of_decide_eq_true rfl) (fun _ => ?_) (fun c => absurd c (of_decide_eq_true rfl))
                refine lv_aload_n hx hb dX11_taken_64 rfl (lv_at hl 1 rfl) ?_
                refine va_get (D := D) hx hb hts inlX11 hown hK hP 0 (jc_0 cI cL ad σ τ) rfl 7 (of_decide_eq_true rfl) (hts _ kw_2_17) (fun _ h9 => h9) rfl dX11_taken_65 ?_
                refine lv_iload_n hx hb dX11_taken_68 rfl (lv_at hl 0 rfl) ?_
                refine jcallV (As := [.int (σ 53 a1.toNatClampNeg)]) (rest := []) ⟨hx, hb, hml, hown, hts⟩ hK hP hA hS hZ (c_X8_kindOf_e l D cI cL ad zz hJ σ τ (σ 53 a1.toNatClampNeg) ((σ 53 a1.toNatClampNeg).toInt) rfl hI38) cw_RX11_183 (jc_38 cI cL ad σ τ) rfl ⟨Nat.le_of_ble_eq_true rfl, Nat.le_of_ble_eq_true rfl⟩ rfl rfl rfl hl.1 rfl (Nat.le_of_ble_eq_true rfl) dX11_taken_69 ⟨Nat.zero_le _, Nat.zero_le _⟩ (fun r203 σ202 τ202 H locs h202 hP hS => ?_)
                obtain ⟨⟨rfl, rfl⟩, h202⟩ := h202
                rcases h202 with h204 | h205
                · obtain ⟨q209, k206, k207, k208⟩ := h204
                  exact absurd (by omega : False) id
                · obtain ⟨q211, k210⟩ := h205
                  have q211 := q211.symm
                  subst q211
                  exact hret 0 σ τ _ _ _ _ rfl ⟨⟨rfl, rfl⟩, (by have h9 := jz_0; unfold jTk; (repeat' split) <;> omega), trivial⟩ hP hS dX11_taken_72
              · obtain ⟨q213, k212⟩ := h199
                have q213 := q213.symm
                subst q213
                refine lv_if_ne (tgt := 64) hx hb dX11_taken_58 (of_decide_eq_true rfl) (fun c => absurd (of_decide_eq_true rfl) c) (fun _ => ?_)
                refine lv_bipush (v := (-12)) hx hb dX11_taken_61 (of_decide_eq_true rfl) ?_
                exact hret (-12) σ τ _ _ _ _ rfl ⟨⟨rfl, rfl⟩, (by have h9 := jz_m12; unfold jTk; (repeat' split) <;> omega), trivial⟩ hP hS dX11_taken_63
        · obtain ⟨q215, k214⟩ := h30
          exact absurd (by omega : False) id
      · obtain ⟨q217, k216⟩ := h23
        have q217 := q217.symm
        subst q217
        refine lv_if_eq (tgt := 33) hx hb dX11_taken_27 (of_decide_eq_true rfl) (fun c => absurd c (of_decide_eq_true rfl)) (fun _ => ?_)
        refine lv_bipush (v := (-11)) hx hb dX11_taken_30 (of_decide_eq_true rfl) ?_
        exact hret (-11) σ τ _ _ _ _ rfl ⟨⟨rfl, rfl⟩, (by have h9 := jz_m11; unfold jTk; (repeat' split) <;> omega), trivial⟩ hP hS dX11_taken_32
set_option maxHeartbeats 4000000 in
set_option maxRecDepth 100000 in
theorem dv_c_X11_act (l : Launch) (D : va_G) (cI cL : ClassId) (ad zz : Nat → Nat) (hJ : jD ad) (σ : Nat → Nat → Int32) (τ : Nat → Nat → Int64) (a1 : Int32) (A1 : Int) (t1 : a1.toInt = A1) (a2 : Int32) (A2 : Int) (t2 : a2.toInt = A2) (a3 : Int32) (A3 : Int) (t3 : a3.toInt = A3) (hI38 : jI38 σ) : jM l yX11_act cX11_act 4 (some .int) ({ frames := 13, cells := 0, slots := 0, locals := 351 }) D cI cL ad zz [.ref (ad 0), .int a1, .int a2, .int a3] σ τ (fun r σ' τ' => τ = τ' ∧ (∀ i : Nat, (i < 38 ∨ 38 < i) ∧ (i < 42 ∨ 42 < i) → σ' i = σ i) ∧ (∀ k : Nat, (k < 1 ∨ 1 < k) → σ' 38 k = σ 38 k) ∧ (jI38 σ') ∧ ((r = 0 ∧ ((A1 < 0) ∨ ((σ 38 0).toInt ≤ A1) ∨ (A2 < 0) ∨ (3 < A2)) ∧ ((σ' 38 1).toInt = 0)) ∨ (True ∧ (0 ≤ A1) ∧ (A1 < (σ 38 0).toInt) ∧ (0 ≤ A2 ∧ A2 ≤ 3) ∧ (r = jActV ((σ 39 a1.toNatClampNeg).toInt) (A2) a3 a1 ∧ jTrc ((σ 39 a1.toNatClampNeg).toInt) (A2) (σ' 42) (σ' 38 1).toInt)))) := by
  refine jM.of hJ (by decide +kernel) (nt := .int) rfl (Nat.le_of_ble_eq_true rfl) ?_
  intro p e s m args below meth c Q ls hC hret hl hP
  obtain ⟨hx, hb, hr, hml, hown, hts, hK, -, hlocks, hZ⟩ := hC
  have hown : s.vm.findClass RX11 = some m.cls := hown
  have hS : va_S (jA ad) s.heap s.heap [] := va_S.rf
  have hA : ∀ q, jA ad q → jA ad q := fun _ h => h
  have hl : lv_has ls 4 [(0, .ref (ad 0)), (1, .int a1), (2, .int a2), (3, .int a3)] := hl
  have g1 := jrg t1
  have g2 := jrg t2
  have g3 := jrg t3
  obtain ⟨i1, i2, w3⟩ : (0 ≤ (σ 38 0).toInt ∧ (σ 38 0).toInt ≤ 20) ∧ (0 ≤ (σ 38 1).toInt ∧ (σ 38 1).toInt ≤ 1000) ∧ (∀ k : Nat, k < 20 → 0 ≤ (σ 39 k).toInt ∧ (σ 39 k).toInt ≤ 6) := id hI38
  refine lv_aload_n hx hb dX11_act_0 rfl (lv_at hl 0 rfl) ?_
  refine va_get (D := D) hx hb hts inlX11 hown hK hP 0 (jc_0 cI cL ad σ τ) rfl 7 (of_decide_eq_true rfl) (hts _ kw_2_17) (fun _ h9 => h9) rfl dX11_act_1 ?_
  refine lv_iconst (v := 0) hx hb dX11_act_4 (of_decide_eq_true rfl) ?_
  refine jput (ty := .int) hx hb hts inlX8 tyX8 tyX8_ok nmX8 hown hK hP hJ hA hS (jc_38 cI cL ad σ τ) rfl (k := 1) (of_decide_eq_true rfl) (Nat.le_of_ble_eq_true rfl) (jp_38_1 cI cL ad σ τ 0) (hts _ kw_48_10) (fun _ h9 => h9) rfl (by decide +kernel) rfl rfl dX11_act_5 (fun σ4 H locs eσ4 hP hS => ?_)
  refine lv_aload_n hx hb dX11_act_8 rfl (lv_at hl 0 rfl) ?_
  refine lv_iload_n hx hb dX11_act_9 rfl (lv_at hl 1 rfl) ?_
  have z5 : (σ4 38 0).toInt = (σ 38 0).toInt := (congrArg Int32.toInt (show σ4 38 0 = (σ 38 0) from (jkp 0 eσ4 (of_decide_eq_true rfl))))
  have z6 : (σ4 38 1).toInt = 0 := ((congrArg Int32.toInt (show σ4 38 1 = 0 from (jsp eσ4))).trans jz_0)
  have w7 : ∀ k : Nat, k < 20 → 0 ≤ (σ4 39 k).toInt ∧ (σ4 39 k).toInt ≤ 6 := (jrr_fr (jnp 39 eσ4 (of_decide_eq_true rfl)) w3)
  exact by
   have I8 : jI38 σ4 := ⟨(by omega), (by omega), w7⟩
   refine jcallV (As := [.int a1]) (rest := []) ⟨hx, hb, hml, hown, hts⟩ hK hP hA hS hZ (c_X11_noRule l D cI cL ad zz hJ σ4 τ a1 (A1) t1 I8) cw_RX11_177 (jc_0 cI cL ad σ4 τ) rfl ⟨Nat.le_of_ble_eq_true rfl, Nat.le_of_ble_eq_true rfl⟩ rfl rfl rfl hl.1 rfl (Nat.le_of_ble_eq_true rfl) dX11_act_10 ⟨Nat.zero_le _, Nat.zero_le _⟩ (fun r10 σ9 τ9 H locs h9 hP hS => ?_)
   obtain ⟨⟨rfl, rfl⟩, h9⟩ := h9
   rcases h9 with h11 | h12
   · obtain ⟨q14, k13⟩ := h11
     have q14 := q14.symm
     subst q14
     refine lv_if_ne (tgt := 25) hx hb dX11_act_13 (of_decide_eq_true rfl) (fun _ => ?_) (fun c => absurd c (of_decide_eq_true rfl))
     refine lv_iconst (v := 0) hx hb dX11_act_25 (of_decide_eq_true rfl) ?_
     exact by exact hret 0 σ4 τ _ _ _ _ rfl ⟨rfl, (fun i hi => (jnp i eσ4 (imp_305 i hi))), (fun i hi => (jkp i eσ4 (imp_42 i hi))), I8, Or.inl ⟨rfl, (by have h9 := jz_0; omega), (by have h9 := jz_0; omega)⟩⟩ hP hS dX11_act_26
   · obtain ⟨q16, k15⟩ := h12
     have q16 := q16.symm
     subst q16
     refine lv_if_ne (tgt := 25) hx hb dX11_act_13 (of_decide_eq_true rfl) (fun c => absurd (of_decide_eq_true rfl) c) (fun _ => ?_)
     refine lv_iload_n hx hb dX11_act_16 rfl (lv_at hl 2 rfl) ?_
     refine lv_iconst (v := 0) hx hb dX11_act_17 (of_decide_eq_true rfl) ?_
     refine lv_iconst (v := 3) hx hb dX11_act_18 (of_decide_eq_true rfl) ?_
     refine jcallS (As := [.int a2, .int 0, .int 3]) (rest := []) ⟨hx, hb, hml, hown, hts⟩ hK hP hA hS hZ (c_X11_outside l D cI cL ad zz hJ σ4 τ a2 (A2) t2 0 (0) jz_0 3 (3) jz_3) cw_RX11_94 ⟨Nat.le_of_ble_eq_true rfl, Nat.le_of_ble_eq_true rfl⟩ rfl rfl rfl hl.1 rfl (Nat.le_of_ble_eq_true rfl) dX11_act_19 ⟨Nat.zero_le _, Nat.zero_le _⟩ (fun r18 σ17 τ17 H locs h17 hP hS => ?_)
     obtain ⟨⟨rfl, rfl⟩, h17⟩ := h17
     rcases h17 with h19 | h20
     · obtain ⟨q22, k21⟩ := h19
       have q22 := q22.symm
       subst q22
       refine lv_if_eq (tgt := 27) hx hb dX11_act_22 (of_decide_eq_true rfl) (fun c => absurd c (of_decide_eq_true rfl)) (fun _ => ?_)
       refine lv_iconst (v := 0) hx hb dX11_act_25 (of_decide_eq_true rfl) ?_
       exact by exact hret 0 σ4 τ _ _ _ _ rfl ⟨rfl, (fun i hi => (jnp i eσ4 (imp_305 i hi))), (fun i hi => (jkp i eσ4 (imp_42 i hi))), I8, Or.inl ⟨rfl, (by have h9 := jz_0; omega), (by have h9 := jz_0; omega)⟩⟩ hP hS dX11_act_26
     · obtain ⟨q24, k23⟩ := h20
       have q24 := q24.symm
       subst q24
       refine lv_if_eq (tgt := 27) hx hb dX11_act_22 (of_decide_eq_true rfl) (fun _ => ?_) (fun c => absurd (of_decide_eq_true rfl) c)
       refine lv_aload_n hx hb dX11_act_27 rfl (lv_at hl 0 rfl) ?_
       refine va_get (D := D) hx hb hts inlX11 hown hK hP 0 (jc_0 cI cL ad σ4 τ) rfl 7 (of_decide_eq_true rfl) (hts _ kw_2_17) (fun _ h9 => h9) rfl dX11_act_28 ?_
       refine lv_iload_n hx hb dX11_act_31 rfl (lv_at hl 1 rfl) ?_
       refine lv_aload_n hx hb dX11_act_32 rfl (lv_at hl 0 rfl) ?_
       refine va_get (D := D) hx hb hts inlX11 hown hK hP 0 (jc_0 cI cL ad σ4 τ) rfl 7 (of_decide_eq_true rfl) (hts _ kw_2_17) (fun _ h9 => h9) rfl dX11_act_33 ?_
       refine lv_iload_n hx hb dX11_act_36 rfl (lv_at hl 1 rfl) ?_
       refine jcallV (As := [.int a1]) (rest := [.int a1, .ref (ad 38)]) ⟨hx, hb, hml, hown, hts⟩ hK hP hA hS hZ (c_X8_kindOf_e l D cI cL ad zz hJ σ4 τ a1 (A1) t1 I8) cw_RX11_183 (jc_38 cI cL ad σ4 τ) rfl ⟨Nat.le_of_ble_eq_true rfl, Nat.le_of_ble_eq_true rfl⟩ rfl rfl rfl hl.1 rfl (Nat.le_of_ble_eq_true rfl) dX11_act_37 ⟨Nat.zero_le _, Nat.zero_le _⟩ (fun r26 σ25 τ25 H locs h25 hP hS => ?_)
       obtain ⟨⟨rfl, rfl⟩, h25⟩ := h25
       rcases h25 with h27 | h28
       · obtain ⟨q32, k29, k30, k31⟩ := h27
         have z33 : (σ4 39 a1.toNatClampNeg).toInt = (σ 39 a1.toNatClampNeg).toInt := by rw [jnp 39 eσ4 (of_decide_eq_true rfl)]
         exact by
          have q34 : r26 = (σ 39 a1.toNatClampNeg) := q32.trans (by rw [jnp 39 eσ4 (of_decide_eq_true rfl)])
          have q34e : (σ4 39 a1.toNatClampNeg).toInt = (σ 39 a1.toNatClampNeg).toInt := by rw [← q32, ← q34]
          have q34 := q34.symm
          subst q34
          refine lv_iload_n hx hb dX11_act_40 rfl (lv_at hl 2 rfl) ?_
          refine lv_iload_n hx hb dX11_act_41 rfl (lv_at hl 3 rfl) ?_
          refine lv_iconst (v := 0) hx hb dX11_act_42 (of_decide_eq_true rfl) ?_
          by_cases c35 : (σ 39 a1.toNatClampNeg) = 0
          · have kc35 := jeq c35 (rfl : (σ 39 a1.toNatClampNeg).toInt = (σ 39 a1.toNatClampNeg).toInt) jz_0
            rw [c35]
            by_cases c36 : a2 = 0
            · have kc36 := jeq c36 t2 jz_0
              rw [c36]
              have m37 : σ4 38 1 = 0 := (jsp eσ4)
              have z38 : (σ4 39 a1.toNatClampNeg).toInt = (σ 39 a1.toNatClampNeg).toInt := by rw [jnp 39 eσ4 (of_decide_eq_true rfl)]
              exact by
               refine jcallV (As := [.int a1, .int 0, .int 0, .int a3, .int 0]) (rest := []) ⟨hx, hb, hml, hown, hts⟩ hK hP hA hS hZ (c_X8_runBody_0_0_0_0_0 l D cI cL ad zz hJ σ4 τ a1 (A1) t1 a3 (A3) t3 m37 I8 (by omega) (by omega) (by omega)) cw_RX11_292 (jc_38 cI cL ad σ4 τ) rfl ⟨Nat.le_of_ble_eq_true rfl, Nat.le_of_ble_eq_true rfl⟩ rfl rfl rfl hl.1 rfl (Nat.le_of_ble_eq_true rfl) dX11_act_43 ⟨Nat.zero_le _, Nat.zero_le _⟩ (fun r40 σ39 τ39 H locs h39 hP hS => ?_)
               obtain ⟨rfl, f41, f42, f43, m44, m45, h39⟩ := h39
               have h47 := h39
               obtain ⟨q49, k48⟩ := h47
               have q49 := q49.symm
               subst q49
               have z50 : (σ39 38 0).toInt = (σ 38 0).toInt := (congrArg Int32.toInt (show σ39 38 0 = (σ 38 0) from ((f42 0 (of_decide_eq_true rfl)).trans (jkp 0 eσ4 (of_decide_eq_true rfl)))))
               have z51 : (σ39 38 1).toInt = 1 := ((congrArg Int32.toInt (show σ39 38 1 = 1 from m44)).trans jz_1)
               have w52 : ∀ k : Nat, k < 20 → 0 ≤ (σ39 39 k).toInt ∧ (σ39 39 k).toInt ≤ 6 := (jrr_fr (f41 39 (of_decide_eq_true rfl)) w7)
               exact by
                have I53 : jI38 σ39 := ⟨(by omega), (by omega), w52⟩
                exact by exact hret (a3 + a1) σ39 τ _ _ _ _ rfl ⟨rfl, (fun i hi => ((f41 i hi).trans (jnp i eσ4 (imp_305 i hi)))), (fun i hi => ((f42 i hi).trans (jkp i eσ4 (imp_42 i hi)))), I53, Or.inr (⟨trivial, (by omega), (by omega), (by omega), ⟨(by rw [show (σ 39 a1.toNatClampNeg).toInt = 0 by omega, show A2 = 0 by omega]; rfl), (by rw [show (σ 39 a1.toNatClampNeg).toInt = 0 by omega, show A2 = 0 by omega]; exact ⟨(by rw [show σ39 38 1 = 1 from m44]; decide), (show σ39 42 0 = 1 from m45), trivial⟩)⟩⟩)⟩ hP hS dX11_act_46
            have kc36 := jne c36 t2 jz_0
            by_cases c55 : a2 = 1
            · have kc55 := jeq c55 t2 jz_1
              rw [c55]
              have m56 : σ4 38 1 = 0 := (jsp eσ4)
              have z57 : (σ4 39 a1.toNatClampNeg).toInt = (σ 39 a1.toNatClampNeg).toInt := by rw [jnp 39 eσ4 (of_decide_eq_true rfl)]
              refine jcallV (As := [.int a1, .int 0, .int 1, .int a3, .int 0]) (rest := []) ⟨hx, hb, hml, hown, hts⟩ hK hP hA hS hZ (c_X8_runBody_0_0_1_0_0 l D cI cL ad zz hJ σ4 τ a1 (A1) t1 a3 (A3) t3 m56 I8 (by omega) (by omega) (by omega)) cw_RX11_292 (jc_38 cI cL ad σ4 τ) rfl ⟨Nat.le_of_ble_eq_true rfl, Nat.le_of_ble_eq_true rfl⟩ rfl rfl rfl hl.1 rfl (Nat.le_of_ble_eq_true rfl) dX11_act_43 ⟨Nat.zero_le _, Nat.zero_le _⟩ (fun r59 σ58 τ58 H locs h58 hP hS => ?_)
              exact by
               obtain ⟨rfl, f60, f61, f62, m63, m64, m65, h58⟩ := h58
               have h67 := h58
               obtain ⟨q69, k68⟩ := h67
               have q69 := q69.symm
               subst q69
               have z70 : (σ58 38 0).toInt = (σ 38 0).toInt := (congrArg Int32.toInt (show σ58 38 0 = (σ 38 0) from ((f61 0 (of_decide_eq_true rfl)).trans (jkp 0 eσ4 (of_decide_eq_true rfl)))))
               have z71 : (σ58 38 1).toInt = 2 := ((congrArg Int32.toInt (show σ58 38 1 = 2 from m63)).trans jz_2)
               have w72 : ∀ k : Nat, k < 20 → 0 ≤ (σ58 39 k).toInt ∧ (σ58 39 k).toInt ≤ 6 := (jrr_fr (f60 39 (of_decide_eq_true rfl)) w7)
               have I73 : jI38 σ58 := ⟨(by omega), (by omega), w72⟩
               exact by exact hret ((a3 + a1) * 2) σ58 τ _ _ _ _ rfl ⟨rfl, (fun i hi => ((f60 i hi).trans (jnp i eσ4 (imp_305 i hi)))), (fun i hi => ((f61 i hi).trans (jkp i eσ4 (imp_42 i hi)))), I73, Or.inr (⟨trivial, (by omega), (by omega), (by omega), ⟨(by rw [show (σ 39 a1.toNatClampNeg).toInt = 0 by omega, show A2 = 1 by omega]; rfl), (by rw [show (σ 39 a1.toNatClampNeg).toInt = 0 by omega, show A2 = 1 by omega]; exact ⟨(by rw [show σ58 38 1 = 2 from m63]; decide), (show σ58 42 0 = 10 from m64), (show σ58 42 1 = 1 from m65), trivial⟩)⟩⟩)⟩ hP hS dX11_act_46
            exact by
             have kc55 := jne c55 t2 jz_1
             by_cases c76 : a2 = 2
             · have kc76 := jeq c76 t2 jz_2
               rw [c76]
               have m77 : σ4 38 1 = 0 := (jsp eσ4)
               have z78 : (σ4 39 a1.toNatClampNeg).toInt = (σ 39 a1.toNatClampNeg).toInt := by rw [jnp 39 eσ4 (of_decide_eq_true rfl)]
               refine jcallV (As := [.int a1, .int 0, .int 2, .int a3, .int 0]) (rest := []) ⟨hx, hb, hml, hown, hts⟩ hK hP hA hS hZ (c_X8_runBody_0_0_2_0_0 l D cI cL ad zz hJ σ4 τ a1 (A1) t1 a3 (A3) t3 m77 I8 (by omega) (by omega) (by omega)) cw_RX11_292 (jc_38 cI cL ad σ4 τ) rfl ⟨Nat.le_of_ble_eq_true rfl, Nat.le_of_ble_eq_true rfl⟩ rfl rfl rfl hl.1 rfl (Nat.le_of_ble_eq_true rfl) dX11_act_43 ⟨Nat.zero_le _, Nat.zero_le _⟩ (fun r80 σ79 τ79 H locs h79 hP hS => ?_)
               obtain ⟨rfl, f81, f82, f83, m84, m85, h79⟩ := h79
               have h87 := h79
               exact by
                obtain ⟨q89, k88⟩ := h87
                have q89 := q89.symm
                subst q89
                have z90 : (σ79 38 0).toInt = (σ 38 0).toInt := (congrArg Int32.toInt (show σ79 38 0 = (σ 38 0) from ((f82 0 (of_decide_eq_true rfl)).trans (jkp 0 eσ4 (of_decide_eq_true rfl)))))
                have z91 : (σ79 38 1).toInt = 1 := ((congrArg Int32.toInt (show σ79 38 1 = 1 from m84)).trans jz_1)
                have w92 : ∀ k : Nat, k < 20 → 0 ≤ (σ79 39 k).toInt ∧ (σ79 39 k).toInt ≤ 6 := (jrr_fr (f81 39 (of_decide_eq_true rfl)) w7)
                have I93 : jI38 σ79 := ⟨(by omega), (by omega), w92⟩
                exact by exact hret (a3 ^^^ a1) σ79 τ _ _ _ _ rfl ⟨rfl, (fun i hi => ((f81 i hi).trans (jnp i eσ4 (imp_305 i hi)))), (fun i hi => ((f82 i hi).trans (jkp i eσ4 (imp_42 i hi)))), I93, Or.inr (⟨trivial, (by omega), (by omega), (by omega), ⟨(by rw [show (σ 39 a1.toNatClampNeg).toInt = 0 by omega, show A2 = 2 by omega]; rfl), (by rw [show (σ 39 a1.toNatClampNeg).toInt = 0 by omega, show A2 = 2 by omega]; exact ⟨(by rw [show σ79 38 1 = 1 from m84]; decide), (show σ79 42 0 = 11 from m85), trivial⟩)⟩⟩)⟩ hP hS dX11_act_46
             have kc76 := jne c76 t2 jz_2
             by_cases c95 : a2 = 3
             · exact by
                have kc95 := jeq c95 t2 jz_3
                rw [c95]
                have m96 : σ4 38 1 = 0 := (jsp eσ4)
                have z97 : (σ4 39 a1.toNatClampNeg).toInt = (σ 39 a1.toNatClampNeg).toInt := by rw [jnp 39 eσ4 (of_decide_eq_true rfl)]
                refine jcallV (As := [.int a1, .int 0, .int 3, .int a3, .int 0]) (rest := []) ⟨hx, hb, hml, hown, hts⟩ hK hP hA hS hZ (c_X8_runBody_0_0_3_0_0 l D cI cL ad zz hJ σ4 τ a1 (A1) t1 a3 (A3) t3 m96 I8 (by omega) (by omega) (by omega)) cw_RX11_292 (jc_38 cI cL ad σ4 τ) rfl ⟨Nat.le_of_ble_eq_true rfl, Nat.le_of_ble_eq_true rfl⟩ rfl rfl rfl hl.1 rfl (Nat.le_of_ble_eq_true rfl) dX11_act_43 ⟨Nat.zero_le _, Nat.zero_le _⟩ (fun r99 σ98 τ98 H locs h98 hP hS => ?_)
                obtain ⟨rfl, f100, f101, f102, m103, m104, m105, m106, m107, h98⟩ := h98
                have h109 := h98
                obtain ⟨q111, k110⟩ := h109
                have q111 := q111.symm
                exact by
                 subst q111
                 have z112 : (σ98 38 0).toInt = (σ 38 0).toInt := (congrArg Int32.toInt (show σ98 38 0 = (σ 38 0) from ((f101 0 (of_decide_eq_true rfl)).trans (jkp 0 eσ4 (of_decide_eq_true rfl)))))
                 have z113 : (σ98 38 1).toInt = 4 := ((congrArg Int32.toInt (show σ98 38 1 = 4 from m103)).trans jz_4)
                 have w114 : ∀ k : Nat, k < 20 → 0 ≤ (σ98 39 k).toInt ∧ (σ98 39 k).toInt ≤ 6 := (jrr_fr (f100 39 (of_decide_eq_true rfl)) w7)
                 have I115 : jI38 σ98 := ⟨(by omega), (by omega), w114⟩
                 exact by exact hret (((a3 + a1) * 2) - (1 ^^^ a1)) σ98 τ _ _ _ _ rfl ⟨rfl, (fun i hi => ((f100 i hi).trans (jnp i eσ4 (imp_305 i hi)))), (fun i hi => ((f101 i hi).trans (jkp i eσ4 (imp_42 i hi)))), I115, Or.inr (⟨trivial, (by omega), (by omega), (by omega), ⟨(by rw [show (σ 39 a1.toNatClampNeg).toInt = 0 by omega, show A2 = 3 by omega]; rfl), (by rw [show (σ 39 a1.toNatClampNeg).toInt = 0 by omega, show A2 = 3 by omega]; exact ⟨(by rw [show σ98 38 1 = 4 from m103]; decide), (show σ98 42 0 = 2 from m104), (show σ98 42 1 = 10 from m105), (show σ98 42 2 = 1 from m106), (show σ98 42 3 = 11 from m107), trivial⟩)⟩⟩)⟩ hP hS dX11_act_46
             have kc95 := jne c95 t2 jz_3
             exact absurd (by omega : False) id
          have kc35 := jne c35 (rfl : (σ 39 a1.toNatClampNeg).toInt = (σ 39 a1.toNatClampNeg).toInt) jz_0
          by_cases c120 : (σ 39 a1.toNatClampNeg) = 1
          · exact by
             have kc120 := jeq c120 (rfl : (σ 39 a1.toNatClampNeg).toInt = (σ 39 a1.toNatClampNeg).toInt) jz_1
             rw [c120]
             by_cases c121 : a2 = 0
             · have kc121 := jeq c121 t2 jz_0
               rw [c121]
               have m122 : σ4 38 1 = 0 := (jsp eσ4)
               have z123 : (σ4 39 a1.toNatClampNeg).toInt = (σ 39 a1.toNatClampNeg).toInt := by rw [jnp 39 eσ4 (of_decide_eq_true rfl)]
               refine jcallV (As := [.int a1, .int 1, .int 0, .int a3, .int 0]) (rest := []) ⟨hx, hb, hml, hown, hts⟩ hK hP hA hS hZ (c_X8_runBody_1_1_0_0_0 l D cI cL ad zz hJ σ4 τ a1 (A1) t1 a3 (A3) t3 m122 I8 (by omega) (by omega) (by omega)) cw_RX11_292 (jc_38 cI cL ad σ4 τ) rfl ⟨Nat.le_of_ble_eq_true rfl, Nat.le_of_ble_eq_true rfl⟩ rfl rfl rfl hl.1 rfl (Nat.le_of_ble_eq_true rfl) dX11_act_43 ⟨Nat.zero_le _, Nat.zero_le _⟩ (fun r125 σ124 τ124 H locs h124 hP hS => ?_)
               obtain ⟨rfl, f126, f127, f128, m129, m130, m131, h124⟩ := h124
               exact by
                have h133 := h124
                obtain ⟨q135, k134⟩ := h133
                have q135 := q135.symm
                subst q135
                have z136 : (σ124 38 0).toInt = (σ 38 0).toInt := (congrArg Int32.toInt (show σ124 38 0 = (σ 38 0) from ((f127 0 (of_decide_eq_true rfl)).trans (jkp 0 eσ4 (of_decide_eq_true rfl)))))
                have z137 : (σ124 38 1).toInt = 2 := ((congrArg Int32.toInt (show σ124 38 1 = 2 from m129)).trans jz_2)
                have w138 : ∀ k : Nat, k < 20 → 0 ≤ (σ124 39 k).toInt ∧ (σ124 39 k).toInt ≤ 6 := (jrr_fr (f126 39 (of_decide_eq_true rfl)) w7)
                have I139 : jI38 σ124 := ⟨(by omega), (by omega), w138⟩
                exact by exact hret ((a3 + a1) + 3) σ124 τ _ _ _ _ rfl ⟨rfl, (fun i hi => ((f126 i hi).trans (jnp i eσ4 (imp_305 i hi)))), (fun i hi => ((f127 i hi).trans (jkp i eσ4 (imp_42 i hi)))), I139, Or.inr (⟨trivial, (by omega), (by omega), (by omega), ⟨(by rw [show (σ 39 a1.toNatClampNeg).toInt = 1 by omega, show A2 = 0 by omega]; rfl), (by rw [show (σ 39 a1.toNatClampNeg).toInt = 1 by omega, show A2 = 0 by omega]; exact ⟨(by rw [show σ124 38 1 = 2 from m129]; decide), (show σ124 42 0 = 20 from m130), (show σ124 42 1 = 1 from m131), trivial⟩)⟩⟩)⟩ hP hS dX11_act_46
             exact by
              have kc121 := jne c121 t2 jz_0
              by_cases c142 : a2 = 1
              · have kc142 := jeq c142 t2 jz_1
                rw [c142]
                have m143 : σ4 38 1 = 0 := (jsp eσ4)
                have z144 : (σ4 39 a1.toNatClampNeg).toInt = (σ 39 a1.toNatClampNeg).toInt := by rw [jnp 39 eσ4 (of_decide_eq_true rfl)]
                refine jcallV (As := [.int a1, .int 1, .int 1, .int a3, .int 0]) (rest := []) ⟨hx, hb, hml, hown, hts⟩ hK hP hA hS hZ (c_X8_runBody_1_1_1_0_0 l D cI cL ad zz hJ σ4 τ a1 (A1) t1 a3 (A3) t3 m143 I8 (by omega) (by omega) (by omega)) cw_RX11_292 (jc_38 cI cL ad σ4 τ) rfl ⟨Nat.le_of_ble_eq_true rfl, Nat.le_of_ble_eq_true rfl⟩ rfl rfl rfl hl.1 rfl (Nat.le_of_ble_eq_true rfl) dX11_act_43 ⟨Nat.zero_le _, Nat.zero_le _⟩ (fun r146 σ145 τ145 H locs h145 hP hS => ?_)
                obtain ⟨rfl, f147, f148, f149, m150, m151, m152, m153, h145⟩ := h145
                have h155 := h145
                exact by
                 obtain ⟨q157, k156⟩ := h155
                 have q157 := q157.symm
                 subst q157
                 have z158 : (σ145 38 0).toInt = (σ 38 0).toInt := (congrArg Int32.toInt (show σ145 38 0 = (σ 38 0) from ((f148 0 (of_decide_eq_true rfl)).trans (jkp 0 eσ4 (of_decide_eq_true rfl)))))
                 have z159 : (σ145 38 1).toInt = 3 := ((congrArg Int32.toInt (show σ145 38 1 = 3 from m150)).trans jz_3)
                 have w160 : ∀ k : Nat, k < 20 → 0 ≤ (σ145 39 k).toInt ∧ (σ145 39 k).toInt ≤ 6 := (jrr_fr (f147 39 (of_decide_eq_true rfl)) w7)
                 have I161 : jI38 σ145 := ⟨(by omega), (by omega), w160⟩
                 exact by exact hret (((a3 + a1) + 3) * 2) σ145 τ _ _ _ _ rfl ⟨rfl, (fun i hi => ((f147 i hi).trans (jnp i eσ4 (imp_305 i hi)))), (fun i hi => ((f148 i hi).trans (jkp i eσ4 (imp_42 i hi)))), I161, Or.inr (⟨trivial, (by omega), (by omega), (by omega), ⟨(by rw [show (σ 39 a1.toNatClampNeg).toInt = 1 by omega, show A2 = 1 by omega]; rfl), (by rw [show (σ 39 a1.toNatClampNeg).toInt = 1 by omega, show A2 = 1 by omega]; exact ⟨(by rw [show σ145 38 1 = 3 from m150]; decide), (show σ145 42 0 = 10 from m151), (show σ145 42 1 = 20 from m152), (show σ145 42 2 = 1 from m153), trivial⟩)⟩⟩)⟩ hP hS dX11_act_46
              have kc142 := jne c142 t2 jz_1
              by_cases c165 : a2 = 2
              · exact by
                 have kc165 := jeq c165 t2 jz_2
                 rw [c165]
                 have m166 : σ4 38 1 = 0 := (jsp eσ4)
                 have z167 : (σ4 39 a1.toNatClampNeg).toInt = (σ 39 a1.toNatClampNeg).toInt := by rw [jnp 39 eσ4 (of_decide_eq_true rfl)]
                 refine jcallV (As := [.int a1, .int 1, .int 2, .int a3, .int 0]) (rest := []) ⟨hx, hb, hml, hown, hts⟩ hK hP hA hS hZ (c_X8_runBody_1_1_2_0_0 l D cI cL ad zz hJ σ4 τ a1 (A1) t1 a3 (A3) t3 m166 I8 (by omega) (by omega) (by omega)) cw_RX11_292 (jc_38 cI cL ad σ4 τ) rfl ⟨Nat.le_of_ble_eq_true rfl, Nat.le_of_ble_eq_true rfl⟩ rfl rfl rfl hl.1 rfl (Nat.le_of_ble_eq_true rfl) dX11_act_43 ⟨Nat.zero_le _, Nat.zero_le _⟩ (fun r169 σ168 τ168 H locs h168 hP hS => ?_)
                 obtain ⟨rfl, f170, f171, f172, m173, m174, h168⟩ := h168
                 have h176 := h168
                 obtain ⟨q178, k177⟩ := h176
                 have q178 := q178.symm
                 exact by
                  subst q178
                  have z179 : (σ168 38 0).toInt = (σ 38 0).toInt := (congrArg Int32.toInt (show σ168 38 0 = (σ 38 0) from ((f171 0 (of_decide_eq_true rfl)).trans (jkp 0 eσ4 (of_decide_eq_true rfl)))))
                  have z180 : (σ168 38 1).toInt = 1 := ((congrArg Int32.toInt (show σ168 38 1 = 1 from m173)).trans jz_1)
                  have w181 : ∀ k : Nat, k < 20 → 0 ≤ (σ168 39 k).toInt ∧ (σ168 39 k).toInt ≤ 6 := (jrr_fr (f170 39 (of_decide_eq_true rfl)) w7)
                  have I182 : jI38 σ168 := ⟨(by omega), (by omega), w181⟩
                  exact by exact hret (a3 ^^^ a1) σ168 τ _ _ _ _ rfl ⟨rfl, (fun i hi => ((f170 i hi).trans (jnp i eσ4 (imp_305 i hi)))), (fun i hi => ((f171 i hi).trans (jkp i eσ4 (imp_42 i hi)))), I182, Or.inr (⟨trivial, (by omega), (by omega), (by omega), ⟨(by rw [show (σ 39 a1.toNatClampNeg).toInt = 1 by omega, show A2 = 2 by omega]; rfl), (by rw [show (σ 39 a1.toNatClampNeg).toInt = 1 by omega, show A2 = 2 by omega]; exact ⟨(by rw [show σ168 38 1 = 1 from m173]; decide), (show σ168 42 0 = 11 from m174), trivial⟩)⟩⟩)⟩ hP hS dX11_act_46
              have kc165 := jne c165 t2 jz_2
              by_cases c184 : a2 = 3
              · have kc184 := jeq c184 t2 jz_3
                rw [c184]
                exact by
                 have m185 : σ4 38 1 = 0 := (jsp eσ4)
                 have z186 : (σ4 39 a1.toNatClampNeg).toInt = (σ 39 a1.toNatClampNeg).toInt := by rw [jnp 39 eσ4 (of_decide_eq_true rfl)]
                 refine jcallV (As := [.int a1, .int 1, .int 3, .int a3, .int 0]) (rest := []) ⟨hx, hb, hml, hown, hts⟩ hK hP hA hS hZ (c_X8_runBody_1_1_3_0_0 l D cI cL ad zz hJ σ4 τ a1 (A1) t1 a3 (A3) t3 m185 I8 (by omega) (by omega) (by omega)) cw_RX11_292 (jc_38 cI cL ad σ4 τ) rfl ⟨Nat.le_of_ble_eq_true rfl, Nat.le_of_ble_eq_true rfl⟩ rfl rfl rfl hl.1 rfl (Nat.le_of_ble_eq_true rfl) dX11_act_43 ⟨Nat.zero_le _, Nat.zero_le _⟩ (fun r188 σ187 τ187 H locs h187 hP hS => ?_)
                 obtain ⟨rfl, f189, f190, f191, m192, m193, m194, m195, m196, m197, h187⟩ := h187
                 have h199 := h187
                 obtain ⟨q201, k200⟩ := h199
                 have q201 := q201.symm
                 subst q201
                 have z202 : (σ187 38 0).toInt = (σ 38 0).toInt := (congrArg Int32.toInt (show σ187 38 0 = (σ 38 0) from ((f190 0 (of_decide_eq_true rfl)).trans (jkp 0 eσ4 (of_decide_eq_true rfl)))))
                 exact by
                  have z203 : (σ187 38 1).toInt = 5 := ((congrArg Int32.toInt (show σ187 38 1 = 5 from m192)).trans jz_5)
                  have w204 : ∀ k : Nat, k < 20 → 0 ≤ (σ187 39 k).toInt ∧ (σ187 39 k).toInt ≤ 6 := (jrr_fr (f189 39 (of_decide_eq_true rfl)) w7)
                  have I205 : jI38 σ187 := ⟨(by omega), (by omega), w204⟩
                  exact by exact hret ((((a3 + a1) + 3) * 2) - (1 ^^^ a1)) σ187 τ _ _ _ _ rfl ⟨rfl, (fun i hi => ((f189 i hi).trans (jnp i eσ4 (imp_305 i hi)))), (fun i hi => ((f190 i hi).trans (jkp i eσ4 (imp_42 i hi)))), I205, Or.inr (⟨trivial, (by omega), (by omega), (by omega), ⟨(by rw [show (σ 39 a1.toNatClampNeg).toInt = 1 by omega, show A2 = 3 by omega]; rfl), (by rw [show (σ 39 a1.toNatClampNeg).toInt = 1 by omega, show A2 = 3 by omega]; exact ⟨(by rw [show σ187 38 1 = 5 from m192]; decide), (show σ187 42 0 = 2 from m193), (show σ187 42 1 = 10 from m194), (show σ187 42 2 = 20 from m195), (show σ187 42 3 = 1 from m196), (show σ187 42 4 = 11 from m197), trivial⟩)⟩⟩)⟩ hP hS dX11_act_46
              have kc184 := jne c184 t2 jz_3
              exact absurd (by omega : False) id
          have kc120 := jne c120 (rfl : (σ 39 a1.toNatClampNeg).toInt = (σ 39 a1.toNatClampNeg).toInt) jz_1
          by_cases c211 : (σ 39 a1.toNatClampNeg) = 2
          · have kc211 := jeq c211 (rfl : (σ 39 a1.toNatClampNeg).toInt = (σ 39 a1.toNatClampNeg).toInt) jz_2
            rw [c211]
            by_cases c212 : a2 = 0
            · exact by
               have kc212 := jeq c212 t2 jz_0
               rw [c212]
               have m213 : σ4 38 1 = 0 := (jsp eσ4)
               have z214 : (σ4 39 a1.toNatClampNeg).toInt = (σ 39 a1.toNatClampNeg).toInt := by rw [jnp 39 eσ4 (of_decide_eq_true rfl)]
               refine jcallV (As := [.int a1, .int 2, .int 0, .int a3, .int 0]) (rest := []) ⟨hx, hb, hml, hown, hts⟩ hK hP hA hS hZ (c_X8_runBody_2_2_0_0_0 l D cI cL ad zz hJ σ4 τ a1 (A1) t1 a3 (A3) t3 m213 I8 (by omega) (by omega) (by omega)) cw_RX11_292 (jc_38 cI cL ad σ4 τ) rfl ⟨Nat.le_of_ble_eq_true rfl, Nat.le_of_ble_eq_true rfl⟩ rfl rfl rfl hl.1 rfl (Nat.le_of_ble_eq_true rfl) dX11_act_43 ⟨Nat.zero_le _, Nat.zero_le _⟩ (fun r216 σ215 τ215 H locs h215 hP hS => ?_)
               obtain ⟨rfl, f217, f218, f219, m220, m221, h215⟩ := h215
               have h223 := h215
               obtain ⟨q225, k224⟩ := h223
               have q225 := q225.symm
               exact by
                subst q225
                have z226 : (σ215 38 0).toInt = (σ 38 0).toInt := (congrArg Int32.toInt (show σ215 38 0 = (σ 38 0) from ((f218 0 (of_decide_eq_true rfl)).trans (jkp 0 eσ4 (of_decide_eq_true rfl)))))
                have z227 : (σ215 38 1).toInt = 1 := ((congrArg Int32.toInt (show σ215 38 1 = 1 from m220)).trans jz_1)
                have w228 : ∀ k : Nat, k < 20 → 0 ≤ (σ215 39 k).toInt ∧ (σ215 39 k).toInt ≤ 6 := (jrr_fr (f217 39 (of_decide_eq_true rfl)) w7)
                have I229 : jI38 σ215 := ⟨(by omega), (by omega), w228⟩
                exact by exact hret (a3 + a1) σ215 τ _ _ _ _ rfl ⟨rfl, (fun i hi => ((f217 i hi).trans (jnp i eσ4 (imp_305 i hi)))), (fun i hi => ((f218 i hi).trans (jkp i eσ4 (imp_42 i hi)))), I229, Or.inr (⟨trivial, (by omega), (by omega), (by omega), ⟨(by rw [show (σ 39 a1.toNatClampNeg).toInt = 2 by omega, show A2 = 0 by omega]; rfl), (by rw [show (σ 39 a1.toNatClampNeg).toInt = 2 by omega, show A2 = 0 by omega]; exact ⟨(by rw [show σ215 38 1 = 1 from m220]; decide), (show σ215 42 0 = 1 from m221), trivial⟩)⟩⟩)⟩ hP hS dX11_act_46
            have kc212 := jne c212 t2 jz_0
            by_cases c231 : a2 = 1
            · have kc231 := jeq c231 t2 jz_1
              rw [c231]
              exact by
               have m232 : σ4 38 1 = 0 := (jsp eσ4)
               have z233 : (σ4 39 a1.toNatClampNeg).toInt = (σ 39 a1.toNatClampNeg).toInt := by rw [jnp 39 eσ4 (of_decide_eq_true rfl)]
               refine jcallV (As := [.int a1, .int 2, .int 1, .int a3, .int 0]) (rest := []) ⟨hx, hb, hml, hown, hts⟩ hK hP hA hS hZ (c_X8_runBody_2_2_1_0_0 l D cI cL ad zz hJ σ4 τ a1 (A1) t1 a3 (A3) t3 m232 I8 (by omega) (by omega) (by omega)) cw_RX11_292 (jc_38 cI cL ad σ4 τ) rfl ⟨Nat.le_of_ble_eq_true rfl, Nat.le_of_ble_eq_true rfl⟩ rfl rfl rfl hl.1 rfl (Nat.le_of_ble_eq_true rfl) dX11_act_43 ⟨Nat.zero_le _, Nat.zero_le _⟩ (fun r235 σ234 τ234 H locs h234 hP hS => ?_)
               obtain ⟨rfl, f236, f237, f238, m239, m240, m241, h234⟩ := h234
               have h243 := h234
               obtain ⟨q245, k244⟩ := h243
               have q245 := q245.symm
               subst q245
               have z246 : (σ234 38 0).toInt = (σ 38 0).toInt := (congrArg Int32.toInt (show σ234 38 0 = (σ 38 0) from ((f237 0 (of_decide_eq_true rfl)).trans (jkp 0 eσ4 (of_decide_eq_true rfl)))))
               exact by
                have z247 : (σ234 38 1).toInt = 2 := ((congrArg Int32.toInt (show σ234 38 1 = 2 from m239)).trans jz_2)
                have w248 : ∀ k : Nat, k < 20 → 0 ≤ (σ234 39 k).toInt ∧ (σ234 39 k).toInt ≤ 6 := (jrr_fr (f236 39 (of_decide_eq_true rfl)) w7)
                have I249 : jI38 σ234 := ⟨(by omega), (by omega), w248⟩
                exact by exact hret ((a3 + a1) * 2) σ234 τ _ _ _ _ rfl ⟨rfl, (fun i hi => ((f236 i hi).trans (jnp i eσ4 (imp_305 i hi)))), (fun i hi => ((f237 i hi).trans (jkp i eσ4 (imp_42 i hi)))), I249, Or.inr (⟨trivial, (by omega), (by omega), (by omega), ⟨(by rw [show (σ 39 a1.toNatClampNeg).toInt = 2 by omega, show A2 = 1 by omega]; rfl), (by rw [show (σ 39 a1.toNatClampNeg).toInt = 2 by omega, show A2 = 1 by omega]; exact ⟨(by rw [show σ234 38 1 = 2 from m239]; decide), (show σ234 42 0 = 10 from m240), (show σ234 42 1 = 1 from m241), trivial⟩)⟩⟩)⟩ hP hS dX11_act_46
            have kc231 := jne c231 t2 jz_1
            by_cases c252 : a2 = 2
            · have kc252 := jeq c252 t2 jz_2
              rw [c252]
              have m253 : σ4 38 1 = 0 := (jsp eσ4)
              exact by
               have z254 : (σ4 39 a1.toNatClampNeg).toInt = (σ 39 a1.toNatClampNeg).toInt := by rw [jnp 39 eσ4 (of_decide_eq_true rfl)]
               refine jcallV (As := [.int a1, .int 2, .int 2, .int a3, .int 0]) (rest := []) ⟨hx, hb, hml, hown, hts⟩ hK hP hA hS hZ (c_X8_runBody_2_2_2_0_0 l D cI cL ad zz hJ σ4 τ a1 (A1) t1 a3 (A3) t3 m253 I8 (by omega) (by omega) (by omega)) cw_RX11_292 (jc_38 cI cL ad σ4 τ) rfl ⟨Nat.le_of_ble_eq_true rfl, Nat.le_of_ble_eq_true rfl⟩ rfl rfl rfl hl.1 rfl (Nat.le_of_ble_eq_true rfl) dX11_act_43 ⟨Nat.zero_le _, Nat.zero_le _⟩ (fun r256 σ255 τ255 H locs h255 hP hS => ?_)
               obtain ⟨rfl, f257, f258, f259, m260, m261, m262, h255⟩ := h255
               have h264 := h255
               obtain ⟨q266, k265⟩ := h264
               have q266 := q266.symm
               subst q266
               have z267 : (σ255 38 0).toInt = (σ 38 0).toInt := (congrArg Int32.toInt (show σ255 38 0 = (σ 38 0) from ((f258 0 (of_decide_eq_true rfl)).trans (jkp 0 eσ4 (of_decide_eq_true rfl)))))
               have z268 : (σ255 38 1).toInt = 2 := ((congrArg Int32.toInt (show σ255 38 1 = 2 from m260)).trans jz_2)
               exact by
                have w269 : ∀ k : Nat, k < 20 → 0 ≤ (σ255 39 k).toInt ∧ (σ255 39 k).toInt ≤ 6 := (jrr_fr (f257 39 (of_decide_eq_true rfl)) w7)
                have I270 : jI38 σ255 := ⟨(by omega), (by omega), w269⟩
                exact by exact hret ((a3 ^^^ a1) * 3) σ255 τ _ _ _ _ rfl ⟨rfl, (fun i hi => ((f257 i hi).trans (jnp i eσ4 (imp_305 i hi)))), (fun i hi => ((f258 i hi).trans (jkp i eσ4 (imp_42 i hi)))), I270, Or.inr (⟨trivial, (by omega), (by omega), (by omega), ⟨(by rw [show (σ 39 a1.toNatClampNeg).toInt = 2 by omega, show A2 = 2 by omega]; rfl), (by rw [show (σ 39 a1.toNatClampNeg).toInt = 2 by omega, show A2 = 2 by omega]; exact ⟨(by rw [show σ255 38 1 = 2 from m260]; decide), (show σ255 42 0 = 30 from m261), (show σ255 42 1 = 11 from m262), trivial⟩)⟩⟩)⟩ hP hS dX11_act_46
            have kc252 := jne c252 t2 jz_2
            by_cases c273 : a2 = 3
            · have kc273 := jeq c273 t2 jz_3
              rw [c273]
              have m274 : σ4 38 1 = 0 := (jsp eσ4)
              have z275 : (σ4 39 a1.toNatClampNeg).toInt = (σ 39 a1.toNatClampNeg).toInt := by rw [jnp 39 eσ4 (of_decide_eq_true rfl)]
              exact by
               refine jcallV (As := [.int a1, .int 2, .int 3, .int a3, .int 0]) (rest := []) ⟨hx, hb, hml, hown, hts⟩ hK hP hA hS hZ (c_X8_runBody_2_2_3_0_0 l D cI cL ad zz hJ σ4 τ a1 (A1) t1 a3 (A3) t3 m274 I8 (by omega) (by omega) (by omega)) cw_RX11_292 (jc_38 cI cL ad σ4 τ) rfl ⟨Nat.le_of_ble_eq_true rfl, Nat.le_of_ble_eq_true rfl⟩ rfl rfl rfl hl.1 rfl (Nat.le_of_ble_eq_true rfl) dX11_act_43 ⟨Nat.zero_le _, Nat.zero_le _⟩ (fun r277 σ276 τ276 H locs h276 hP hS => ?_)
               obtain ⟨rfl, f278, f279, f280, m281, m282, m283, m284, m285, m286, h276⟩ := h276
               have h288 := h276
               obtain ⟨q290, k289⟩ := h288
               have q290 := q290.symm
               subst q290
               have z291 : (σ276 38 0).toInt = (σ 38 0).toInt := (congrArg Int32.toInt (show σ276 38 0 = (σ 38 0) from ((f279 0 (of_decide_eq_true rfl)).trans (jkp 0 eσ4 (of_decide_eq_true rfl)))))
               have z292 : (σ276 38 1).toInt = 5 := ((congrArg Int32.toInt (show σ276 38 1 = 5 from m281)).trans jz_5)
               have w293 : ∀ k : Nat, k < 20 → 0 ≤ (σ276 39 k).toInt ∧ (σ276 39 k).toInt ≤ 6 := (jrr_fr (f278 39 (of_decide_eq_true rfl)) w7)
               exact by
                have I294 : jI38 σ276 := ⟨(by omega), (by omega), w293⟩
                exact by exact hret (((a3 + a1) * 2) - ((1 ^^^ a1) * 3)) σ276 τ _ _ _ _ rfl ⟨rfl, (fun i hi => ((f278 i hi).trans (jnp i eσ4 (imp_305 i hi)))), (fun i hi => ((f279 i hi).trans (jkp i eσ4 (imp_42 i hi)))), I294, Or.inr (⟨trivial, (by omega), (by omega), (by omega), ⟨(by rw [show (σ 39 a1.toNatClampNeg).toInt = 2 by omega, show A2 = 3 by omega]; rfl), (by rw [show (σ 39 a1.toNatClampNeg).toInt = 2 by omega, show A2 = 3 by omega]; exact ⟨(by rw [show σ276 38 1 = 5 from m281]; decide), (show σ276 42 0 = 2 from m282), (show σ276 42 1 = 10 from m283), (show σ276 42 2 = 1 from m284), (show σ276 42 3 = 30 from m285), (show σ276 42 4 = 11 from m286), trivial⟩)⟩⟩)⟩ hP hS dX11_act_46
            have kc273 := jne c273 t2 jz_3
            exact absurd (by omega : False) id
          have kc211 := jne c211 (rfl : (σ 39 a1.toNatClampNeg).toInt = (σ 39 a1.toNatClampNeg).toInt) jz_2
          by_cases c300 : (σ 39 a1.toNatClampNeg) = 3
          · have kc300 := jeq c300 (rfl : (σ 39 a1.toNatClampNeg).toInt = (σ 39 a1.toNatClampNeg).toInt) jz_3
            rw [c300]
            by_cases c301 : a2 = 0
            · have kc301 := jeq c301 t2 jz_0
              rw [c301]
              have m302 : σ4 38 1 = 0 := (jsp eσ4)
              have z303 : (σ4 39 a1.toNatClampNeg).toInt = (σ 39 a1.toNatClampNeg).toInt := by rw [jnp 39 eσ4 (of_decide_eq_true rfl)]
              exact by
               refine jcallV (As := [.int a1, .int 3, .int 0, .int a3, .int 0]) (rest := []) ⟨hx, hb, hml, hown, hts⟩ hK hP hA hS hZ (c_X8_runBody_3_3_0_0_0 l D cI cL ad zz hJ σ4 τ a1 (A1) t1 a3 (A3) t3 m302 I8 (by omega) (by omega) (by omega)) cw_RX11_292 (jc_38 cI cL ad σ4 τ) rfl ⟨Nat.le_of_ble_eq_true rfl, Nat.le_of_ble_eq_true rfl⟩ rfl rfl rfl hl.1 rfl (Nat.le_of_ble_eq_true rfl) dX11_act_43 ⟨Nat.zero_le _, Nat.zero_le _⟩ (fun r305 σ304 τ304 H locs h304 hP hS => ?_)
               obtain ⟨rfl, f306, f307, f308, m309, m310, h304⟩ := h304
               have h312 := h304
               obtain ⟨q314, k313⟩ := h312
               have q314 := q314.symm
               subst q314
               have z315 : (σ304 38 0).toInt = (σ 38 0).toInt := (congrArg Int32.toInt (show σ304 38 0 = (σ 38 0) from ((f307 0 (of_decide_eq_true rfl)).trans (jkp 0 eσ4 (of_decide_eq_true rfl)))))
               have z316 : (σ304 38 1).toInt = 1 := ((congrArg Int32.toInt (show σ304 38 1 = 1 from m309)).trans jz_1)
               have w317 : ∀ k : Nat, k < 20 → 0 ≤ (σ304 39 k).toInt ∧ (σ304 39 k).toInt ≤ 6 := (jrr_fr (f306 39 (of_decide_eq_true rfl)) w7)
               exact by
                have I318 : jI38 σ304 := ⟨(by omega), (by omega), w317⟩
                exact by exact hret (a3 + a1) σ304 τ _ _ _ _ rfl ⟨rfl, (fun i hi => ((f306 i hi).trans (jnp i eσ4 (imp_305 i hi)))), (fun i hi => ((f307 i hi).trans (jkp i eσ4 (imp_42 i hi)))), I318, Or.inr (⟨trivial, (by omega), (by omega), (by omega), ⟨(by rw [show (σ 39 a1.toNatClampNeg).toInt = 3 by omega, show A2 = 0 by omega]; rfl), (by rw [show (σ 39 a1.toNatClampNeg).toInt = 3 by omega, show A2 = 0 by omega]; exact ⟨(by rw [show σ304 38 1 = 1 from m309]; decide), (show σ304 42 0 = 1 from m310), trivial⟩)⟩⟩)⟩ hP hS dX11_act_46
            have kc301 := jne c301 t2 jz_0
            by_cases c320 : a2 = 1
            · have kc320 := jeq c320 t2 jz_1
              rw [c320]
              have m321 : σ4 38 1 = 0 := (jsp eσ4)
              have z322 : (σ4 39 a1.toNatClampNeg).toInt = (σ 39 a1.toNatClampNeg).toInt := by rw [jnp 39 eσ4 (of_decide_eq_true rfl)]
              refine jcallV (As := [.int a1, .int 3, .int 1, .int a3, .int 0]) (rest := []) ⟨hx, hb, hml, hown, hts⟩ hK hP hA hS hZ (c_X8_runBody_3_3_1_0_0 l D cI cL ad zz hJ σ4 τ a1 (A1) t1 a3 (A3) t3 m321 I8 (by omega) (by omega) (by omega)) cw_RX11_292 (jc_38 cI cL ad σ4 τ) rfl ⟨Nat.le_of_ble_eq_true rfl, Nat.le_of_ble_eq_true rfl⟩ rfl rfl rfl hl.1 rfl (Nat.le_of_ble_eq_true rfl) dX11_act_43 ⟨Nat.zero_le _, Nat.zero_le _⟩ (fun r324 σ323 τ323 H locs h323 hP hS => ?_)
              exact by
               obtain ⟨rfl, f325, f326, f327, m328, m329, m330, m331, h323⟩ := h323
               have h333 := h323
               obtain ⟨q335, k334⟩ := h333
               have q335 := q335.symm
               subst q335
               have z336 : (σ323 38 0).toInt = (σ 38 0).toInt := (congrArg Int32.toInt (show σ323 38 0 = (σ 38 0) from ((f326 0 (of_decide_eq_true rfl)).trans (jkp 0 eσ4 (of_decide_eq_true rfl)))))
               have z337 : (σ323 38 1).toInt = 3 := ((congrArg Int32.toInt (show σ323 38 1 = 3 from m328)).trans jz_3)
               have w338 : ∀ k : Nat, k < 20 → 0 ≤ (σ323 39 k).toInt ∧ (σ323 39 k).toInt ≤ 6 := (jrr_fr (f325 39 (of_decide_eq_true rfl)) w7)
               have I339 : jI38 σ323 := ⟨(by omega), (by omega), w338⟩
               exact by exact hret (-((a3 + a1) * 2)) σ323 τ _ _ _ _ rfl ⟨rfl, (fun i hi => ((f325 i hi).trans (jnp i eσ4 (imp_305 i hi)))), (fun i hi => ((f326 i hi).trans (jkp i eσ4 (imp_42 i hi)))), I339, Or.inr (⟨trivial, (by omega), (by omega), (by omega), ⟨(by rw [show (σ 39 a1.toNatClampNeg).toInt = 3 by omega, show A2 = 1 by omega]; rfl), (by rw [show (σ 39 a1.toNatClampNeg).toInt = 3 by omega, show A2 = 1 by omega]; exact ⟨(by rw [show σ323 38 1 = 3 from m328]; decide), (show σ323 42 0 = 40 from m329), (show σ323 42 1 = 10 from m330), (show σ323 42 2 = 1 from m331), trivial⟩)⟩⟩)⟩ hP hS dX11_act_46
            exact by
             have kc320 := jne c320 t2 jz_1
             by_cases c343 : a2 = 2
             · have kc343 := jeq c343 t2 jz_2
               rw [c343]
               have m344 : σ4 38 1 = 0 := (jsp eσ4)
               have z345 : (σ4 39 a1.toNatClampNeg).toInt = (σ 39 a1.toNatClampNeg).toInt := by rw [jnp 39 eσ4 (of_decide_eq_true rfl)]
               refine jcallV (As := [.int a1, .int 3, .int 2, .int a3, .int 0]) (rest := []) ⟨hx, hb, hml, hown, hts⟩ hK hP hA hS hZ (c_X8_runBody_3_3_2_0_0 l D cI cL ad zz hJ σ4 τ a1 (A1) t1 a3 (A3) t3 m344 I8 (by omega) (by omega) (by omega)) cw_RX11_292 (jc_38 cI cL ad σ4 τ) rfl ⟨Nat.le_of_ble_eq_true rfl, Nat.le_of_ble_eq_true rfl⟩ rfl rfl rfl hl.1 rfl (Nat.le_of_ble_eq_true rfl) dX11_act_43 ⟨Nat.zero_le _, Nat.zero_le _⟩ (fun r347 σ346 τ346 H locs h346 hP hS => ?_)
               obtain ⟨rfl, f348, f349, f350, m351, m352, m353, h346⟩ := h346
               have h355 := h346
               exact by
                obtain ⟨q357, k356⟩ := h355
                have q357 := q357.symm
                subst q357
                have z358 : (σ346 38 0).toInt = (σ 38 0).toInt := (congrArg Int32.toInt (show σ346 38 0 = (σ 38 0) from ((f349 0 (of_decide_eq_true rfl)).trans (jkp 0 eσ4 (of_decide_eq_true rfl)))))
                have z359 : (σ346 38 1).toInt = 2 := ((congrArg Int32.toInt (show σ346 38 1 = 2 from m351)).trans jz_2)
                have w360 : ∀ k : Nat, k < 20 → 0 ≤ (σ346 39 k).toInt ∧ (σ346 39 k).toInt ≤ 6 := (jrr_fr (f348 39 (of_decide_eq_true rfl)) w7)
                have I361 : jI38 σ346 := ⟨(by omega), (by omega), w360⟩
                exact by exact hret ((a3 ^^^ a1) * 3) σ346 τ _ _ _ _ rfl ⟨rfl, (fun i hi => ((f348 i hi).trans (jnp i eσ4 (imp_305 i hi)))), (fun i hi => ((f349 i hi).trans (jkp i eσ4 (imp_42 i hi)))), I361, Or.inr (⟨trivial, (by omega), (by omega), (by omega), ⟨(by rw [show (σ 39 a1.toNatClampNeg).toInt = 3 by omega, show A2 = 2 by omega]; rfl), (by rw [show (σ 39 a1.toNatClampNeg).toInt = 3 by omega, show A2 = 2 by omega]; exact ⟨(by rw [show σ346 38 1 = 2 from m351]; decide), (show σ346 42 0 = 30 from m352), (show σ346 42 1 = 11 from m353), trivial⟩)⟩⟩)⟩ hP hS dX11_act_46
             have kc343 := jne c343 t2 jz_2
             by_cases c364 : a2 = 3
             · exact by
                have kc364 := jeq c364 t2 jz_3
                rw [c364]
                have m365 : σ4 38 1 = 0 := (jsp eσ4)
                have z366 : (σ4 39 a1.toNatClampNeg).toInt = (σ 39 a1.toNatClampNeg).toInt := by rw [jnp 39 eσ4 (of_decide_eq_true rfl)]
                refine jcallV (As := [.int a1, .int 3, .int 3, .int a3, .int 0]) (rest := []) ⟨hx, hb, hml, hown, hts⟩ hK hP hA hS hZ (c_X8_runBody_3_3_3_0_0 l D cI cL ad zz hJ σ4 τ a1 (A1) t1 a3 (A3) t3 m365 I8 (by omega) (by omega) (by omega)) cw_RX11_292 (jc_38 cI cL ad σ4 τ) rfl ⟨Nat.le_of_ble_eq_true rfl, Nat.le_of_ble_eq_true rfl⟩ rfl rfl rfl hl.1 rfl (Nat.le_of_ble_eq_true rfl) dX11_act_43 ⟨Nat.zero_le _, Nat.zero_le _⟩ (fun r368 σ367 τ367 H locs h367 hP hS => ?_)
                obtain ⟨rfl, f369, f370, f371, m372, m373, m374, m375, m376, m377, m378, h367⟩ := h367
                have h380 := h367
                obtain ⟨q382, k381⟩ := h380
                have q382 := q382.symm
                exact by
                 subst q382
                 have z383 : (σ367 38 0).toInt = (σ 38 0).toInt := (congrArg Int32.toInt (show σ367 38 0 = (σ 38 0) from ((f370 0 (of_decide_eq_true rfl)).trans (jkp 0 eσ4 (of_decide_eq_true rfl)))))
                 have z384 : (σ367 38 1).toInt = 6 := ((congrArg Int32.toInt (show σ367 38 1 = 6 from m372)).trans jz_6)
                 have w385 : ∀ k : Nat, k < 20 → 0 ≤ (σ367 39 k).toInt ∧ (σ367 39 k).toInt ≤ 6 := (jrr_fr (f369 39 (of_decide_eq_true rfl)) w7)
                 have I386 : jI38 σ367 := ⟨(by omega), (by omega), w385⟩
                 exact by exact hret ((-((a3 + a1) * 2)) - ((1 ^^^ a1) * 3)) σ367 τ _ _ _ _ rfl ⟨rfl, (fun i hi => ((f369 i hi).trans (jnp i eσ4 (imp_305 i hi)))), (fun i hi => ((f370 i hi).trans (jkp i eσ4 (imp_42 i hi)))), I386, Or.inr (⟨trivial, (by omega), (by omega), (by omega), ⟨(by rw [show (σ 39 a1.toNatClampNeg).toInt = 3 by omega, show A2 = 3 by omega]; rfl), (by rw [show (σ 39 a1.toNatClampNeg).toInt = 3 by omega, show A2 = 3 by omega]; exact ⟨(by rw [show σ367 38 1 = 6 from m372]; decide), (show σ367 42 0 = 2 from m373), (show σ367 42 1 = 40 from m374), (show σ367 42 2 = 10 from m375), (show σ367 42 3 = 1 from m376), (show σ367 42 4 = 30 from m377), (show σ367 42 5 = 11 from m378), trivial⟩)⟩⟩)⟩ hP hS dX11_act_46
             have kc364 := jne c364 t2 jz_3
             exact absurd (by omega : False) id
          have kc300 := jne c300 (rfl : (σ 39 a1.toNatClampNeg).toInt = (σ 39 a1.toNatClampNeg).toInt) jz_3
          by_cases c393 : (σ 39 a1.toNatClampNeg) = 4
          · exact by
             have kc393 := jeq c393 (rfl : (σ 39 a1.toNatClampNeg).toInt = (σ 39 a1.toNatClampNeg).toInt) jz_4
             rw [c393]
             by_cases c394 : a2 = 0
             · have kc394 := jeq c394 t2 jz_0
               rw [c394]
               have m395 : σ4 38 1 = 0 := (jsp eσ4)
               have z396 : (σ4 39 a1.toNatClampNeg).toInt = (σ 39 a1.toNatClampNeg).toInt := by rw [jnp 39 eσ4 (of_decide_eq_true rfl)]
               refine jcallV (As := [.int a1, .int 4, .int 0, .int a3, .int 0]) (rest := []) ⟨hx, hb, hml, hown, hts⟩ hK hP hA hS hZ (c_X8_runBody_4_4_0_0_0 l D cI cL ad zz hJ σ4 τ a1 (A1) t1 a3 (A3) t3 m395 I8 (by omega) (by omega) (by omega)) cw_RX11_292 (jc_38 cI cL ad σ4 τ) rfl ⟨Nat.le_of_ble_eq_true rfl, Nat.le_of_ble_eq_true rfl⟩ rfl rfl rfl hl.1 rfl (Nat.le_of_ble_eq_true rfl) dX11_act_43 ⟨Nat.zero_le _, Nat.zero_le _⟩ (fun r398 σ397 τ397 H locs h397 hP hS => ?_)
               obtain ⟨rfl, f399, f400, f401, m402, m403, m404, m405, h397⟩ := h397
               exact by
                have h407 := h397
                obtain ⟨q409, k408⟩ := h407
                have q409 := q409.symm
                subst q409
                have z410 : (σ397 38 0).toInt = (σ 38 0).toInt := (congrArg Int32.toInt (show σ397 38 0 = (σ 38 0) from ((f400 0 (of_decide_eq_true rfl)).trans (jkp 0 eσ4 (of_decide_eq_true rfl)))))
                have z411 : (σ397 38 1).toInt = 3 := ((congrArg Int32.toInt (show σ397 38 1 = 3 from m402)).trans jz_3)
                have w412 : ∀ k : Nat, k < 20 → 0 ≤ (σ397 39 k).toInt ∧ (σ397 39 k).toInt ≤ 6 := (jrr_fr (f399 39 (of_decide_eq_true rfl)) w7)
                have I413 : jI38 σ397 := ⟨(by omega), (by omega), w412⟩
                exact by exact hret (((a3 + 1) + a1) + 3) σ397 τ _ _ _ _ rfl ⟨rfl, (fun i hi => ((f399 i hi).trans (jnp i eσ4 (imp_305 i hi)))), (fun i hi => ((f400 i hi).trans (jkp i eσ4 (imp_42 i hi)))), I413, Or.inr (⟨trivial, (by omega), (by omega), (by omega), ⟨(by rw [show (σ 39 a1.toNatClampNeg).toInt = 4 by omega, show A2 = 0 by omega]; rfl), (by rw [show (σ 39 a1.toNatClampNeg).toInt = 4 by omega, show A2 = 0 by omega]; exact ⟨(by rw [show σ397 38 1 = 3 from m402]; decide), (show σ397 42 0 = 50 from m403), (show σ397 42 1 = 20 from m404), (show σ397 42 2 = 1 from m405), trivial⟩)⟩⟩)⟩ hP hS dX11_act_46
             exact by
              have kc394 := jne c394 t2 jz_0
              by_cases c417 : a2 = 1
              · have kc417 := jeq c417 t2 jz_1
                rw [c417]
                have m418 : σ4 38 1 = 0 := (jsp eσ4)
                have z419 : (σ4 39 a1.toNatClampNeg).toInt = (σ 39 a1.toNatClampNeg).toInt := by rw [jnp 39 eσ4 (of_decide_eq_true rfl)]
                refine jcallV (As := [.int a1, .int 4, .int 1, .int a3, .int 0]) (rest := []) ⟨hx, hb, hml, hown, hts⟩ hK hP hA hS hZ (c_X8_runBody_4_4_1_0_0 l D cI cL ad zz hJ σ4 τ a1 (A1) t1 a3 (A3) t3 m418 I8 (by omega) (by omega) (by omega)) cw_RX11_292 (jc_38 cI cL ad σ4 τ) rfl ⟨Nat.le_of_ble_eq_true rfl, Nat.le_of_ble_eq_true rfl⟩ rfl rfl rfl hl.1 rfl (Nat.le_of_ble_eq_true rfl) dX11_act_43 ⟨Nat.zero_le _, Nat.zero_le _⟩ (fun r421 σ420 τ420 H locs h420 hP hS => ?_)
                obtain ⟨rfl, f422, f423, f424, m425, m426, m427, m428, m429, h420⟩ := h420
                have h431 := h420
                exact by
                 obtain ⟨q433, k432⟩ := h431
                 have q433 := q433.symm
                 subst q433
                 have z434 : (σ420 38 0).toInt = (σ 38 0).toInt := (congrArg Int32.toInt (show σ420 38 0 = (σ 38 0) from ((f423 0 (of_decide_eq_true rfl)).trans (jkp 0 eσ4 (of_decide_eq_true rfl)))))
                 have z435 : (σ420 38 1).toInt = 4 := ((congrArg Int32.toInt (show σ420 38 1 = 4 from m425)).trans jz_4)
                 have w436 : ∀ k : Nat, k < 20 → 0 ≤ (σ420 39 k).toInt ∧ (σ420 39 k).toInt ≤ 6 := (jrr_fr (f422 39 (of_decide_eq_true rfl)) w7)
                 have I437 : jI38 σ420 := ⟨(by omega), (by omega), w436⟩
                 exact by exact hret ((((a3 + 1) + a1) + 3) * 2) σ420 τ _ _ _ _ rfl ⟨rfl, (fun i hi => ((f422 i hi).trans (jnp i eσ4 (imp_305 i hi)))), (fun i hi => ((f423 i hi).trans (jkp i eσ4 (imp_42 i hi)))), I437, Or.inr (⟨trivial, (by omega), (by omega), (by omega), ⟨(by rw [show (σ 39 a1.toNatClampNeg).toInt = 4 by omega, show A2 = 1 by omega]; rfl), (by rw [show (σ 39 a1.toNatClampNeg).toInt = 4 by omega, show A2 = 1 by omega]; exact ⟨(by rw [show σ420 38 1 = 4 from m425]; decide), (show σ420 42 0 = 10 from m426), (show σ420 42 1 = 50 from m427), (show σ420 42 2 = 20 from m428), (show σ420 42 3 = 1 from m429), trivial⟩)⟩⟩)⟩ hP hS dX11_act_46
              have kc417 := jne c417 t2 jz_1
              by_cases c442 : a2 = 2
              · exact by
                 have kc442 := jeq c442 t2 jz_2
                 rw [c442]
                 have m443 : σ4 38 1 = 0 := (jsp eσ4)
                 have z444 : (σ4 39 a1.toNatClampNeg).toInt = (σ 39 a1.toNatClampNeg).toInt := by rw [jnp 39 eσ4 (of_decide_eq_true rfl)]
                 refine jcallV (As := [.int a1, .int 4, .int 2, .int a3, .int 0]) (rest := []) ⟨hx, hb, hml, hown, hts⟩ hK hP hA hS hZ (c_X8_runBody_4_4_2_0_0 l D cI cL ad zz hJ σ4 τ a1 (A1) t1 a3 (A3) t3 m443 I8 (by omega) (by omega) (by omega)) cw_RX11_292 (jc_38 cI cL ad σ4 τ) rfl ⟨Nat.le_of_ble_eq_true rfl, Nat.le_of_ble_eq_true rfl⟩ rfl rfl rfl hl.1 rfl (Nat.le_of_ble_eq_true rfl) dX11_act_43 ⟨Nat.zero_le _, Nat.zero_le _⟩ (fun r446 σ445 τ445 H locs h445 hP hS => ?_)
                 obtain ⟨rfl, f447, f448, f449, m450, m451, h445⟩ := h445
                 have h453 := h445
                 obtain ⟨q455, k454⟩ := h453
                 have q455 := q455.symm
                 exact by
                  subst q455
                  have z456 : (σ445 38 0).toInt = (σ 38 0).toInt := (congrArg Int32.toInt (show σ445 38 0 = (σ 38 0) from ((f448 0 (of_decide_eq_true rfl)).trans (jkp 0 eσ4 (of_decide_eq_true rfl)))))
                  have z457 : (σ445 38 1).toInt = 1 := ((congrArg Int32.toInt (show σ445 38 1 = 1 from m450)).trans jz_1)
                  have w458 : ∀ k : Nat, k < 20 → 0 ≤ (σ445 39 k).toInt ∧ (σ445 39 k).toInt ≤ 6 := (jrr_fr (f447 39 (of_decide_eq_true rfl)) w7)
                  have I459 : jI38 σ445 := ⟨(by omega), (by omega), w458⟩
                  exact by exact hret (a3 ^^^ a1) σ445 τ _ _ _ _ rfl ⟨rfl, (fun i hi => ((f447 i hi).trans (jnp i eσ4 (imp_305 i hi)))), (fun i hi => ((f448 i hi).trans (jkp i eσ4 (imp_42 i hi)))), I459, Or.inr (⟨trivial, (by omega), (by omega), (by omega), ⟨(by rw [show (σ 39 a1.toNatClampNeg).toInt = 4 by omega, show A2 = 2 by omega]; rfl), (by rw [show (σ 39 a1.toNatClampNeg).toInt = 4 by omega, show A2 = 2 by omega]; exact ⟨(by rw [show σ445 38 1 = 1 from m450]; decide), (show σ445 42 0 = 11 from m451), trivial⟩)⟩⟩)⟩ hP hS dX11_act_46
              have kc442 := jne c442 t2 jz_2
              by_cases c461 : a2 = 3
              · have kc461 := jeq c461 t2 jz_3
                rw [c461]
                exact by
                 have m462 : σ4 38 1 = 0 := (jsp eσ4)
                 have z463 : (σ4 39 a1.toNatClampNeg).toInt = (σ 39 a1.toNatClampNeg).toInt := by rw [jnp 39 eσ4 (of_decide_eq_true rfl)]
                 refine jcallV (As := [.int a1, .int 4, .int 3, .int a3, .int 0]) (rest := []) ⟨hx, hb, hml, hown, hts⟩ hK hP hA hS hZ (c_X8_runBody_4_4_3_0_0 l D cI cL ad zz hJ σ4 τ a1 (A1) t1 a3 (A3) t3 m462 I8 (by omega) (by omega) (by omega)) cw_RX11_292 (jc_38 cI cL ad σ4 τ) rfl ⟨Nat.le_of_ble_eq_true rfl, Nat.le_of_ble_eq_true rfl⟩ rfl rfl rfl hl.1 rfl (Nat.le_of_ble_eq_true rfl) dX11_act_43 ⟨Nat.zero_le _, Nat.zero_le _⟩ (fun r465 σ464 τ464 H locs h464 hP hS => ?_)
                 obtain ⟨rfl, f466, f467, f468, m469, m470, m471, m472, m473, m474, m475, m476, h464⟩ := h464
                 have h478 := h464
                 obtain ⟨q480, k479⟩ := h478
                 have q480 := q480.symm
                 subst q480
                 have z481 : (σ464 38 0).toInt = (σ 38 0).toInt := (congrArg Int32.toInt (show σ464 38 0 = (σ 38 0) from ((f467 0 (of_decide_eq_true rfl)).trans (jkp 0 eσ4 (of_decide_eq_true rfl)))))
                 exact by
                  have z482 : (σ464 38 1).toInt = 7 := ((congrArg Int32.toInt (show σ464 38 1 = 7 from m469)).trans jz_7)
                  have w483 : ∀ k : Nat, k < 20 → 0 ≤ (σ464 39 k).toInt ∧ (σ464 39 k).toInt ≤ 6 := (jrr_fr (f466 39 (of_decide_eq_true rfl)) w7)
                  have I484 : jI38 σ464 := ⟨(by omega), (by omega), w483⟩
                  exact by exact hret ((((((a3 + 1) + a1) + 3) * 2) - (1 ^^^ a1)) ^^^ 5) σ464 τ _ _ _ _ rfl ⟨rfl, (fun i hi => ((f466 i hi).trans (jnp i eσ4 (imp_305 i hi)))), (fun i hi => ((f467 i hi).trans (jkp i eσ4 (imp_42 i hi)))), I484, Or.inr (⟨trivial, (by omega), (by omega), (by omega), ⟨(by rw [show (σ 39 a1.toNatClampNeg).toInt = 4 by omega, show A2 = 3 by omega]; rfl), (by rw [show (σ 39 a1.toNatClampNeg).toInt = 4 by omega, show A2 = 3 by omega]; exact ⟨(by rw [show σ464 38 1 = 7 from m469]; decide), (show σ464 42 0 = 51 from m470), (show σ464 42 1 = 2 from m471), (show σ464 42 2 = 10 from m472), (show σ464 42 3 = 50 from m473), (show σ464 42 4 = 20 from m474), (show σ464 42 5 = 1 from m475), (show σ464 42 6 = 11 from m476), trivial⟩)⟩⟩)⟩ hP hS dX11_act_46
              have kc461 := jne c461 t2 jz_3
              exact absurd (by omega : False) id
          have kc393 := jne c393 (rfl : (σ 39 a1.toNatClampNeg).toInt = (σ 39 a1.toNatClampNeg).toInt) jz_4
          by_cases c492 : (σ 39 a1.toNatClampNeg) = 5
          · have kc492 := jeq c492 (rfl : (σ 39 a1.toNatClampNeg).toInt = (σ 39 a1.toNatClampNeg).toInt) jz_5
            rw [c492]
            by_cases c493 : a2 = 0
            · exact by
               have kc493 := jeq c493 t2 jz_0
               rw [c493]
               have m494 : σ4 38 1 = 0 := (jsp eσ4)
               have z495 : (σ4 39 a1.toNatClampNeg).toInt = (σ 39 a1.toNatClampNeg).toInt := by rw [jnp 39 eσ4 (of_decide_eq_true rfl)]
               refine jcallV (As := [.int a1, .int 5, .int 0, .int a3, .int 0]) (rest := []) ⟨hx, hb, hml, hown, hts⟩ hK hP hA hS hZ (c_X8_runBody_5_5_0_0_0 l D cI cL ad zz hJ σ4 τ a1 (A1) t1 a3 (A3) t3 m494 I8 (by omega) (by omega) (by omega)) cw_RX11_292 (jc_38 cI cL ad σ4 τ) rfl ⟨Nat.le_of_ble_eq_true rfl, Nat.le_of_ble_eq_true rfl⟩ rfl rfl rfl hl.1 rfl (Nat.le_of_ble_eq_true rfl) dX11_act_43 ⟨Nat.zero_le _, Nat.zero_le _⟩ (fun r497 σ496 τ496 H locs h496 hP hS => ?_)
               obtain ⟨rfl, f498, f499, f500, m501, m502, h496⟩ := h496
               have h504 := h496
               obtain ⟨q506, k505⟩ := h504
               have q506 := q506.symm
               exact by
                subst q506
                have z507 : (σ496 38 0).toInt = (σ 38 0).toInt := (congrArg Int32.toInt (show σ496 38 0 = (σ 38 0) from ((f499 0 (of_decide_eq_true rfl)).trans (jkp 0 eσ4 (of_decide_eq_true rfl)))))
                have z508 : (σ496 38 1).toInt = 1 := ((congrArg Int32.toInt (show σ496 38 1 = 1 from m501)).trans jz_1)
                have w509 : ∀ k : Nat, k < 20 → 0 ≤ (σ496 39 k).toInt ∧ (σ496 39 k).toInt ≤ 6 := (jrr_fr (f498 39 (of_decide_eq_true rfl)) w7)
                have I510 : jI38 σ496 := ⟨(by omega), (by omega), w509⟩
                exact by exact hret (a3 + a1) σ496 τ _ _ _ _ rfl ⟨rfl, (fun i hi => ((f498 i hi).trans (jnp i eσ4 (imp_305 i hi)))), (fun i hi => ((f499 i hi).trans (jkp i eσ4 (imp_42 i hi)))), I510, Or.inr (⟨trivial, (by omega), (by omega), (by omega), ⟨(by rw [show (σ 39 a1.toNatClampNeg).toInt = 5 by omega, show A2 = 0 by omega]; rfl), (by rw [show (σ 39 a1.toNatClampNeg).toInt = 5 by omega, show A2 = 0 by omega]; exact ⟨(by rw [show σ496 38 1 = 1 from m501]; decide), (show σ496 42 0 = 1 from m502), trivial⟩)⟩⟩)⟩ hP hS dX11_act_46
            have kc493 := jne c493 t2 jz_0
            by_cases c512 : a2 = 1
            · have kc512 := jeq c512 t2 jz_1
              rw [c512]
              exact by
               have m513 : σ4 38 1 = 0 := (jsp eσ4)
               have z514 : (σ4 39 a1.toNatClampNeg).toInt = (σ 39 a1.toNatClampNeg).toInt := by rw [jnp 39 eσ4 (of_decide_eq_true rfl)]
               refine jcallV (As := [.int a1, .int 5, .int 1, .int a3, .int 0]) (rest := []) ⟨hx, hb, hml, hown, hts⟩ hK hP hA hS hZ (c_X8_runBody_5_5_1_0_0 l D cI cL ad zz hJ σ4 τ a1 (A1) t1 a3 (A3) t3 m513 I8 (by omega) (by omega) (by omega)) cw_RX11_292 (jc_38 cI cL ad σ4 τ) rfl ⟨Nat.le_of_ble_eq_true rfl, Nat.le_of_ble_eq_true rfl⟩ rfl rfl rfl hl.1 rfl (Nat.le_of_ble_eq_true rfl) dX11_act_43 ⟨Nat.zero_le _, Nat.zero_le _⟩ (fun r516 σ515 τ515 H locs h515 hP hS => ?_)
               obtain ⟨rfl, f517, f518, f519, m520, m521, m522, m523, h515⟩ := h515
               have h525 := h515
               obtain ⟨q527, k526⟩ := h525
               have q527 := q527.symm
               subst q527
               have z528 : (σ515 38 0).toInt = (σ 38 0).toInt := (congrArg Int32.toInt (show σ515 38 0 = (σ 38 0) from ((f518 0 (of_decide_eq_true rfl)).trans (jkp 0 eσ4 (of_decide_eq_true rfl)))))
               exact by
                have z529 : (σ515 38 1).toInt = 3 := ((congrArg Int32.toInt (show σ515 38 1 = 3 from m520)).trans jz_3)
                have w530 : ∀ k : Nat, k < 20 → 0 ≤ (σ515 39 k).toInt ∧ (σ515 39 k).toInt ≤ 6 := (jrr_fr (f517 39 (of_decide_eq_true rfl)) w7)
                have I531 : jI38 σ515 := ⟨(by omega), (by omega), w530⟩
                exact by exact hret (-((a3 + a1) * 2)) σ515 τ _ _ _ _ rfl ⟨rfl, (fun i hi => ((f517 i hi).trans (jnp i eσ4 (imp_305 i hi)))), (fun i hi => ((f518 i hi).trans (jkp i eσ4 (imp_42 i hi)))), I531, Or.inr (⟨trivial, (by omega), (by omega), (by omega), ⟨(by rw [show (σ 39 a1.toNatClampNeg).toInt = 5 by omega, show A2 = 1 by omega]; rfl), (by rw [show (σ 39 a1.toNatClampNeg).toInt = 5 by omega, show A2 = 1 by omega]; exact ⟨(by rw [show σ515 38 1 = 3 from m520]; decide), (show σ515 42 0 = 40 from m521), (show σ515 42 1 = 10 from m522), (show σ515 42 2 = 1 from m523), trivial⟩)⟩⟩)⟩ hP hS dX11_act_46
            have kc512 := jne c512 t2 jz_1
            by_cases c535 : a2 = 2
            · have kc535 := jeq c535 t2 jz_2
              rw [c535]
              have m536 : σ4 38 1 = 0 := (jsp eσ4)
              exact by
               have z537 : (σ4 39 a1.toNatClampNeg).toInt = (σ 39 a1.toNatClampNeg).toInt := by rw [jnp 39 eσ4 (of_decide_eq_true rfl)]
               refine jcallV (As := [.int a1, .int 5, .int 2, .int a3, .int 0]) (rest := []) ⟨hx, hb, hml, hown, hts⟩ hK hP hA hS hZ (c_X8_runBody_5_5_2_0_0 l D cI cL ad zz hJ σ4 τ a1 (A1) t1 a3 (A3) t3 m536 I8 (by omega) (by omega) (by omega)) cw_RX11_292 (jc_38 cI cL ad σ4 τ) rfl ⟨Nat.le_of_ble_eq_true rfl, Nat.le_of_ble_eq_true rfl⟩ rfl rfl rfl hl.1 rfl (Nat.le_of_ble_eq_true rfl) dX11_act_43 ⟨Nat.zero_le _, Nat.zero_le _⟩ (fun r539 σ538 τ538 H locs h538 hP hS => ?_)
               obtain ⟨rfl, f540, f541, f542, m543, m544, m545, m546, m547, h538⟩ := h538
               have h549 := h538
               obtain ⟨q551, k550⟩ := h549
               have q551 := q551.symm
               subst q551
               have z552 : (σ538 38 0).toInt = (σ 38 0).toInt := (congrArg Int32.toInt (show σ538 38 0 = (σ 38 0) from ((f541 0 (of_decide_eq_true rfl)).trans (jkp 0 eσ4 (of_decide_eq_true rfl)))))
               have z553 : (σ538 38 1).toInt = 4 := ((congrArg Int32.toInt (show σ538 38 1 = 4 from m543)).trans jz_4)
               exact by
                have w554 : ∀ k : Nat, k < 20 → 0 ≤ (σ538 39 k).toInt ∧ (σ538 39 k).toInt ≤ 6 := (jrr_fr (f540 39 (of_decide_eq_true rfl)) w7)
                have I555 : jI38 σ538 := ⟨(by omega), (by omega), w554⟩
                exact by exact hret (((a3 ^^^ a1) * 3) - (2 + a1)) σ538 τ _ _ _ _ rfl ⟨rfl, (fun i hi => ((f540 i hi).trans (jnp i eσ4 (imp_305 i hi)))), (fun i hi => ((f541 i hi).trans (jkp i eσ4 (imp_42 i hi)))), I555, Or.inr (⟨trivial, (by omega), (by omega), (by omega), ⟨(by rw [show (σ 39 a1.toNatClampNeg).toInt = 5 by omega, show A2 = 2 by omega]; rfl), (by rw [show (σ 39 a1.toNatClampNeg).toInt = 5 by omega, show A2 = 2 by omega]; exact ⟨(by rw [show σ538 38 1 = 4 from m543]; decide), (show σ538 42 0 = 60 from m544), (show σ538 42 1 = 30 from m545), (show σ538 42 2 = 11 from m546), (show σ538 42 3 = 1 from m547), trivial⟩)⟩⟩)⟩ hP hS dX11_act_46
            have kc535 := jne c535 t2 jz_2
            by_cases c560 : a2 = 3
            · have kc560 := jeq c560 t2 jz_3
              rw [c560]
              have m561 : σ4 38 1 = 0 := (jsp eσ4)
              have z562 : (σ4 39 a1.toNatClampNeg).toInt = (σ 39 a1.toNatClampNeg).toInt := by rw [jnp 39 eσ4 (of_decide_eq_true rfl)]
              exact by
               refine jcallV (As := [.int a1, .int 5, .int 3, .int a3, .int 0]) (rest := []) ⟨hx, hb, hml, hown, hts⟩ hK hP hA hS hZ (c_X8_runBody_5_5_3_0_0 l D cI cL ad zz hJ σ4 τ a1 (A1) t1 a3 (A3) t3 m561 I8 (by omega) (by omega) (by omega)) cw_RX11_292 (jc_38 cI cL ad σ4 τ) rfl ⟨Nat.le_of_ble_eq_true rfl, Nat.le_of_ble_eq_true rfl⟩ rfl rfl rfl hl.1 rfl (Nat.le_of_ble_eq_true rfl) dX11_act_43 ⟨Nat.zero_le _, Nat.zero_le _⟩ (fun r564 σ563 τ563 H locs h563 hP hS => ?_)
               obtain ⟨rfl, f565, f566, f567, m568, m569, m570, m571, m572, m573, m574, m575, m576, h563⟩ := h563
               have h578 := h563
               obtain ⟨q580, k579⟩ := h578
               have q580 := q580.symm
               subst q580
               have z581 : (σ563 38 0).toInt = (σ 38 0).toInt := (congrArg Int32.toInt (show σ563 38 0 = (σ 38 0) from ((f566 0 (of_decide_eq_true rfl)).trans (jkp 0 eσ4 (of_decide_eq_true rfl)))))
               have z582 : (σ563 38 1).toInt = 8 := ((congrArg Int32.toInt (show σ563 38 1 = 8 from m568)).trans jz_8)
               have w583 : ∀ k : Nat, k < 20 → 0 ≤ (σ563 39 k).toInt ∧ (σ563 39 k).toInt ≤ 6 := (jrr_fr (f565 39 (of_decide_eq_true rfl)) w7)
               exact by
                have I584 : jI38 σ563 := ⟨(by omega), (by omega), w583⟩
                exact by exact hret ((-((a3 + a1) * 2)) - (((1 ^^^ a1) * 3) - (2 + a1))) σ563 τ _ _ _ _ rfl ⟨rfl, (fun i hi => ((f565 i hi).trans (jnp i eσ4 (imp_305 i hi)))), (fun i hi => ((f566 i hi).trans (jkp i eσ4 (imp_42 i hi)))), I584, Or.inr (⟨trivial, (by omega), (by omega), (by omega), ⟨(by rw [show (σ 39 a1.toNatClampNeg).toInt = 5 by omega, show A2 = 3 by omega]; rfl), (by rw [show (σ 39 a1.toNatClampNeg).toInt = 5 by omega, show A2 = 3 by omega]; exact ⟨(by rw [show σ563 38 1 = 8 from m568]; decide), (show σ563 42 0 = 2 from m569), (show σ563 42 1 = 40 from m570), (show σ563 42 2 = 10 from m571), (show σ563 42 3 = 1 from m572), (show σ563 42 4 = 60 from m573), (show σ563 42 5 = 30 from m574), (show σ563 42 6 = 11 from m575), (show σ563 42 7 = 1 from m576), trivial⟩)⟩⟩)⟩ hP hS dX11_act_46
            have kc560 := jne c560 t2 jz_3
            exact absurd (by omega : False) id
          have kc492 := jne c492 (rfl : (σ 39 a1.toNatClampNeg).toInt = (σ 39 a1.toNatClampNeg).toInt) jz_5
          by_cases c593 : (σ 39 a1.toNatClampNeg) = 6
          · have kc593 := jeq c593 (rfl : (σ 39 a1.toNatClampNeg).toInt = (σ 39 a1.toNatClampNeg).toInt) jz_6
            rw [c593]
            by_cases c594 : a2 = 0
            · have kc594 := jeq c594 t2 jz_0
              rw [c594]
              have m595 : σ4 38 1 = 0 := (jsp eσ4)
              have z596 : (σ4 39 a1.toNatClampNeg).toInt = (σ 39 a1.toNatClampNeg).toInt := by rw [jnp 39 eσ4 (of_decide_eq_true rfl)]
              exact by
               refine jcallV (As := [.int a1, .int 6, .int 0, .int a3, .int 0]) (rest := []) ⟨hx, hb, hml, hown, hts⟩ hK hP hA hS hZ (c_X8_runBody_6_6_0_0_0 l D cI cL ad zz hJ σ4 τ a1 (A1) t1 a3 (A3) t3 m595 I8 (by omega) (by omega) (by omega)) cw_RX11_292 (jc_38 cI cL ad σ4 τ) rfl ⟨Nat.le_of_ble_eq_true rfl, Nat.le_of_ble_eq_true rfl⟩ rfl rfl rfl hl.1 rfl (Nat.le_of_ble_eq_true rfl) dX11_act_43 ⟨Nat.zero_le _, Nat.zero_le _⟩ (fun r598 σ597 τ597 H locs h597 hP hS => ?_)
               obtain ⟨rfl, f599, f600, f601, m602, m603, h597⟩ := h597
               have h605 := h597
               obtain ⟨q607, k606⟩ := h605
               have q607 := q607.symm
               subst q607
               have z608 : (σ597 38 0).toInt = (σ 38 0).toInt := (congrArg Int32.toInt (show σ597 38 0 = (σ 38 0) from ((f600 0 (of_decide_eq_true rfl)).trans (jkp 0 eσ4 (of_decide_eq_true rfl)))))
               have z609 : (σ597 38 1).toInt = 1 := ((congrArg Int32.toInt (show σ597 38 1 = 1 from m602)).trans jz_1)
               have w610 : ∀ k : Nat, k < 20 → 0 ≤ (σ597 39 k).toInt ∧ (σ597 39 k).toInt ≤ 6 := (jrr_fr (f599 39 (of_decide_eq_true rfl)) w7)
               exact by
                have I611 : jI38 σ597 := ⟨(by omega), (by omega), w610⟩
                exact by exact hret (a3 + a1) σ597 τ _ _ _ _ rfl ⟨rfl, (fun i hi => ((f599 i hi).trans (jnp i eσ4 (imp_305 i hi)))), (fun i hi => ((f600 i hi).trans (jkp i eσ4 (imp_42 i hi)))), I611, Or.inr (⟨trivial, (by omega), (by omega), (by omega), ⟨(by rw [show (σ 39 a1.toNatClampNeg).toInt = 6 by omega, show A2 = 0 by omega]; rfl), (by rw [show (σ 39 a1.toNatClampNeg).toInt = 6 by omega, show A2 = 0 by omega]; exact ⟨(by rw [show σ597 38 1 = 1 from m602]; decide), (show σ597 42 0 = 1 from m603), trivial⟩)⟩⟩)⟩ hP hS dX11_act_46
            have kc594 := jne c594 t2 jz_0
            by_cases c613 : a2 = 1
            · have kc613 := jeq c613 t2 jz_1
              rw [c613]
              have m614 : σ4 38 1 = 0 := (jsp eσ4)
              have z615 : (σ4 39 a1.toNatClampNeg).toInt = (σ 39 a1.toNatClampNeg).toInt := by rw [jnp 39 eσ4 (of_decide_eq_true rfl)]
              refine jcallV (As := [.int a1, .int 6, .int 1, .int a3, .int 0]) (rest := []) ⟨hx, hb, hml, hown, hts⟩ hK hP hA hS hZ (c_X8_runBody_6_6_1_0_0 l D cI cL ad zz hJ σ4 τ a1 (A1) t1 a3 (A3) t3 m614 I8 (by omega) (by omega) (by omega)) cw_RX11_292 (jc_38 cI cL ad σ4 τ) rfl ⟨Nat.le_of_ble_eq_true rfl, Nat.le_of_ble_eq_true rfl⟩ rfl rfl rfl hl.1 rfl (Nat.le_of_ble_eq_true rfl) dX11_act_43 ⟨Nat.zero_le _, Nat.zero_le _⟩ (fun r617 σ616 τ616 H locs h616 hP hS => ?_)
              exact by
               obtain ⟨rfl, f618, f619, f620, m621, m622, m623, m624, m625, h616⟩ := h616
               have h627 := h616
               obtain ⟨q629, k628⟩ := h627
               have q629 := q629.symm
               subst q629
               have z630 : (σ616 38 0).toInt = (σ 38 0).toInt := (congrArg Int32.toInt (show σ616 38 0 = (σ 38 0) from ((f619 0 (of_decide_eq_true rfl)).trans (jkp 0 eσ4 (of_decide_eq_true rfl)))))
               have z631 : (σ616 38 1).toInt = 4 := ((congrArg Int32.toInt (show σ616 38 1 = 4 from m621)).trans jz_4)
               have w632 : ∀ k : Nat, k < 20 → 0 ≤ (σ616 39 k).toInt ∧ (σ616 39 k).toInt ≤ 6 := (jrr_fr (f618 39 (of_decide_eq_true rfl)) w7)
               have I633 : jI38 σ616 := ⟨(by omega), (by omega), w632⟩
               exact by exact hret (((a3 + a1) * 2) + (1 ^^^ a1)) σ616 τ _ _ _ _ rfl ⟨rfl, (fun i hi => ((f618 i hi).trans (jnp i eσ4 (imp_305 i hi)))), (fun i hi => ((f619 i hi).trans (jkp i eσ4 (imp_42 i hi)))), I633, Or.inr (⟨trivial, (by omega), (by omega), (by omega), ⟨(by rw [show (σ 39 a1.toNatClampNeg).toInt = 6 by omega, show A2 = 1 by omega]; rfl), (by rw [show (σ 39 a1.toNatClampNeg).toInt = 6 by omega, show A2 = 1 by omega]; exact ⟨(by rw [show σ616 38 1 = 4 from m621]; decide), (show σ616 42 0 = 70 from m622), (show σ616 42 1 = 10 from m623), (show σ616 42 2 = 1 from m624), (show σ616 42 3 = 11 from m625), trivial⟩)⟩⟩)⟩ hP hS dX11_act_46
            exact by
             have kc613 := jne c613 t2 jz_1
             by_cases c638 : a2 = 2
             · have kc638 := jeq c638 t2 jz_2
               rw [c638]
               have m639 : σ4 38 1 = 0 := (jsp eσ4)
               have z640 : (σ4 39 a1.toNatClampNeg).toInt = (σ 39 a1.toNatClampNeg).toInt := by rw [jnp 39 eσ4 (of_decide_eq_true rfl)]
               refine jcallV (As := [.int a1, .int 6, .int 2, .int a3, .int 0]) (rest := []) ⟨hx, hb, hml, hown, hts⟩ hK hP hA hS hZ (c_X8_runBody_6_6_2_0_0 l D cI cL ad zz hJ σ4 τ a1 (A1) t1 a3 (A3) t3 m639 I8 (by omega) (by omega) (by omega)) cw_RX11_292 (jc_38 cI cL ad σ4 τ) rfl ⟨Nat.le_of_ble_eq_true rfl, Nat.le_of_ble_eq_true rfl⟩ rfl rfl rfl hl.1 rfl (Nat.le_of_ble_eq_true rfl) dX11_act_43 ⟨Nat.zero_le _, Nat.zero_le _⟩ (fun r642 σ641 τ641 H locs h641 hP hS => ?_)
               obtain ⟨rfl, f643, f644, f645, m646, m647, h641⟩ := h641
               have h649 := h641
               exact by
                obtain ⟨q651, k650⟩ := h649
                have q651 := q651.symm
                subst q651
                have z652 : (σ641 38 0).toInt = (σ 38 0).toInt := (congrArg Int32.toInt (show σ641 38 0 = (σ 38 0) from ((f644 0 (of_decide_eq_true rfl)).trans (jkp 0 eσ4 (of_decide_eq_true rfl)))))
                have z653 : (σ641 38 1).toInt = 1 := ((congrArg Int32.toInt (show σ641 38 1 = 1 from m646)).trans jz_1)
                have w654 : ∀ k : Nat, k < 20 → 0 ≤ (σ641 39 k).toInt ∧ (σ641 39 k).toInt ≤ 6 := (jrr_fr (f643 39 (of_decide_eq_true rfl)) w7)
                have I655 : jI38 σ641 := ⟨(by omega), (by omega), w654⟩
                exact by exact hret (a3 ^^^ a1) σ641 τ _ _ _ _ rfl ⟨rfl, (fun i hi => ((f643 i hi).trans (jnp i eσ4 (imp_305 i hi)))), (fun i hi => ((f644 i hi).trans (jkp i eσ4 (imp_42 i hi)))), I655, Or.inr (⟨trivial, (by omega), (by omega), (by omega), ⟨(by rw [show (σ 39 a1.toNatClampNeg).toInt = 6 by omega, show A2 = 2 by omega]; rfl), (by rw [show (σ 39 a1.toNatClampNeg).toInt = 6 by omega, show A2 = 2 by omega]; exact ⟨(by rw [show σ641 38 1 = 1 from m646]; decide), (show σ641 42 0 = 11 from m647), trivial⟩)⟩⟩)⟩ hP hS dX11_act_46
             have kc638 := jne c638 t2 jz_2
             by_cases c657 : a2 = 3
             · exact by
                have kc657 := jeq c657 t2 jz_3
                rw [c657]
                have m658 : σ4 38 1 = 0 := (jsp eσ4)
                have z659 : (σ4 39 a1.toNatClampNeg).toInt = (σ 39 a1.toNatClampNeg).toInt := by rw [jnp 39 eσ4 (of_decide_eq_true rfl)]
                refine jcallV (As := [.int a1, .int 6, .int 3, .int a3, .int 0]) (rest := []) ⟨hx, hb, hml, hown, hts⟩ hK hP hA hS hZ (c_X8_runBody_6_6_3_0_0 l D cI cL ad zz hJ σ4 τ a1 (A1) t1 a3 (A3) t3 m658 I8 (by omega) (by omega) (by omega)) cw_RX11_292 (jc_38 cI cL ad σ4 τ) rfl ⟨Nat.le_of_ble_eq_true rfl, Nat.le_of_ble_eq_true rfl⟩ rfl rfl rfl hl.1 rfl (Nat.le_of_ble_eq_true rfl) dX11_act_43 ⟨Nat.zero_le _, Nat.zero_le _⟩ (fun r661 σ660 τ660 H locs h660 hP hS => ?_)
                obtain ⟨rfl, f662, f663, f664, m665, m666, m667, m668, m669, m670, m671, h660⟩ := h660
                have h673 := h660
                obtain ⟨q675, k674⟩ := h673
                have q675 := q675.symm
                exact by
                 subst q675
                 have z676 : (σ660 38 0).toInt = (σ 38 0).toInt := (congrArg Int32.toInt (show σ660 38 0 = (σ 38 0) from ((f663 0 (of_decide_eq_true rfl)).trans (jkp 0 eσ4 (of_decide_eq_true rfl)))))
                 have z677 : (σ660 38 1).toInt = 6 := ((congrArg Int32.toInt (show σ660 38 1 = 6 from m665)).trans jz_6)
                 have w678 : ∀ k : Nat, k < 20 → 0 ≤ (σ660 39 k).toInt ∧ (σ660 39 k).toInt ≤ 6 := (jrr_fr (f662 39 (of_decide_eq_true rfl)) w7)
                 have I679 : jI38 σ660 := ⟨(by omega), (by omega), w678⟩
                 exact by exact hret ((((a3 + a1) * 2) + (1 ^^^ a1)) - (1 ^^^ a1)) σ660 τ _ _ _ _ rfl ⟨rfl, (fun i hi => ((f662 i hi).trans (jnp i eσ4 (imp_305 i hi)))), (fun i hi => ((f663 i hi).trans (jkp i eσ4 (imp_42 i hi)))), I679, Or.inr (⟨trivial, (by omega), (by omega), (by omega), ⟨(by rw [show (σ 39 a1.toNatClampNeg).toInt = 6 by omega, show A2 = 3 by omega]; rfl), (by rw [show (σ 39 a1.toNatClampNeg).toInt = 6 by omega, show A2 = 3 by omega]; exact ⟨(by rw [show σ660 38 1 = 6 from m665]; decide), (show σ660 42 0 = 2 from m666), (show σ660 42 1 = 70 from m667), (show σ660 42 2 = 10 from m668), (show σ660 42 3 = 1 from m669), (show σ660 42 4 = 11 from m670), (show σ660 42 5 = 11 from m671), trivial⟩)⟩⟩)⟩ hP hS dX11_act_46
             have kc657 := jne c657 t2 jz_3
             exact absurd (by omega : False) id
          have kc593 := jne c593 (rfl : (σ 39 a1.toNatClampNeg).toInt = (σ 39 a1.toNatClampNeg).toInt) jz_6
          exact absurd (by omega : False) id
       · exact by
          obtain ⟨q687, k686⟩ := h28
          have z688 : (σ4 39 a1.toNatClampNeg).toInt = (σ 39 a1.toNatClampNeg).toInt := by rw [jnp 39 eσ4 (of_decide_eq_true rfl)]
          exact absurd (by omega : False) id

set_option maxHeartbeats 4000000 in
set_option maxRecDepth 100000 in
theorem c_X12_goThroughBook (l : Launch) (D : va_G) (cI cL : ClassId) (ad zz : Nat → Nat) (hJ : jD ad) (σ : Nat → Nat → Int32) (τ : Nat → Nat → Int64) (a1 : Int32) (A1 : Int) (t1 : a1.toInt = A1) (hI102 : jI102 σ) (hI104 : jI104 σ) (hI107 : jI107 σ) (hw68 : ∀ k : Nat, k < 4 → 0 ≤ (σ 68 k).toInt ∧ (σ 68 k).toInt ≤ 3) (hs_jBook : jBook σ) (hp0 : 0 ≤ A1) (hp1 : A1 ≤ (σ 55 47).toInt) : jMv l yX12_goThroughBook cX12_goThroughBook 4 none ({ frames := 1, cells := 0, slots := 0, locals := 24 }) D cI cL ad zz [.ref (ad 55), .int a1] σ τ (fun σ' τ' => τ = τ' ∧ (∀ i : Nat, (i < 55 ∨ 55 < i) ∧ (i < 68 ∨ 69 < i) → σ' i = σ i) ∧ (∀ k : Nat, (k < 25 ∨ 25 < k) ∧ (k < 26 ∨ 26 < k) ∧ (k < 27 ∨ 27 < k) → σ' 55 k = σ 55 k) ∧ (jI120 σ') ∧ (jBook σ') ∧ ((σ' 55 26).toInt = A1) ∧ ((σ' 55 25).toInt = (jcnt (σ 81) ((A1) : Int).toNat : Int)) ∧ ((A1 < (σ 55 47).toInt ∧ (σ' 55 25).toInt < (σ 55 10).toInt) ∨ (A1 = (σ 55 47).toInt)) ∧ True) := by
  refine jMv.of hJ (by decide +kernel) rfl (Nat.le_of_ble_eq_true rfl) ?_
  intro p e s m args below meth c Q ls hC hret hl hP
  obtain ⟨hx, hb, hr, hml, hown, hts, hK, -, hlocks, hZ⟩ := hC
  have hown : s.vm.findClass RX12 = some m.cls := hown
  have hS : va_S (jA ad) s.heap s.heap [] := va_S.rf
  have hA : ∀ q, jA ad q → jA ad q := fun _ h => h
  have hl : lv_has ls 4 [(0, .ref (ad 55)), (1, .int a1)] := hl
  have g1 := jrg t1
  obtain ⟨i1, w2, w3⟩ : (0 ≤ (σ 55 6).toInt ∧ (σ 55 6).toInt ≤ 4) ∧ (∀ k : Nat, k < 4 → 0 ≤ (σ 60 k).toInt ∧ (σ 60 k).toInt ≤ 50) ∧ (∀ k : Nat, k < 4 → 0 ≤ (σ 61 k).toInt ∧ (σ 61 k).toInt ≤ 20) := id hI102
  obtain ⟨i4, i5, i6, w7, w8⟩ : (1 ≤ (σ 55 10).toInt ∧ (σ 55 10).toInt ≤ 8) ∧ (1 ≤ (σ 55 12).toInt ∧ (σ 55 12).toInt ≤ 12) ∧ (0 ≤ (σ 55 13).toInt ∧ (σ 55 13).toInt ≤ 999) ∧ (∀ k : Nat, k < 8 → 0 ≤ (σ 62 k).toInt ∧ (σ 62 k).toInt ≤ 3) ∧ (∀ k : Nat, k < 8 → 0 ≤ (σ 67 k).toInt ∧ (σ 67 k).toInt ≤ 3) := id hI104
  obtain ⟨i9, i10, w11⟩ : (0 ≤ (σ 55 47).toInt ∧ (σ 55 47).toInt ≤ 12) ∧ ((σ 55 47).toInt ≤ (σ 55 12).toInt) ∧ (∀ k : Nat, k < 12 → 0 ≤ (σ 80 k).toInt ∧ (σ 80 k).toInt ≤ 3) := id hI107
  have k12 := hs_jBook.dis (N := A1) (by omega) (by omega) (by omega)
  have k13 : (jcnt (σ 81) ((0) : Int).toNat : Int) = 0 := rfl
  have k13z : (jcnt (σ 81) (((0 : Int32).toInt) : Int).toNat : Int) = 0 := rfl
  refine lv_aload_n hx hb dX12_goThroughBook_0 rfl (lv_at hl 0 rfl) ?_
  have I14 : jI104 σ := ⟨(by omega), (by omega), (by omega), w7, w8⟩
  refine jcallVv (As := []) (rest := []) ⟨hx, hb, hml, hown, hts⟩ hK hP hA hS hZ (c_X12_begin l D cI cL ad zz hJ σ τ I14 hw68) cw_RX12_256 (jc_55 cI cL ad σ τ) rfl ⟨Nat.le_of_ble_eq_true rfl, Nat.le_of_ble_eq_true rfl⟩ rfl rfl rfl hl.1 rfl (Nat.le_of_ble_eq_true rfl) dX12_goThroughBook_1 ⟨Nat.zero_le _, Nat.zero_le _⟩ (fun σ15 τ15 H locs h15 hP hS => ?_)
  obtain ⟨rfl, f17, f18, I19, h15⟩ := h15
  obtain ⟨i20, i21, i22, i23, i24, w25⟩ : (0 ≤ (σ15 55 25).toInt) ∧ ((σ15 55 25).toInt ≤ (σ15 55 10).toInt) ∧ (0 ≤ (σ15 55 26).toInt) ∧ ((σ15 55 26).toInt ≤ (σ15 55 12).toInt) ∧ ((-1) ≤ (σ15 55 27).toInt ∧ (σ15 55 27).toInt ≤ 3) ∧ (∀ k : Nat, k < 4 → 0 ≤ (σ15 68 k).toInt ∧ (σ15 68 k).toInt ≤ 3) := id I19
  have z26 : (σ15 55 10).toInt = (σ 55 10).toInt := by rw [(show σ15 55 10 = (σ 55 10) from (by rw [f18 10 (by omega)]))]
  have z27 : (σ15 55 12).toInt = (σ 55 12).toInt := by rw [(show σ15 55 12 = (σ 55 12) from (by rw [f18 12 (by omega)]))]
  obtain ⟨k28, k29, k30, h15⟩ := h15
  refine lv_iconst (v := 0) hx hb dX12_goThroughBook_4 (by decide) ?_
  refine lv_istore_n (lv' := [(2, .int 0), (0, .ref (ad 55)), (1, .int a1)]) hx hb dX12_goThroughBook_5 rfl hl (by decide) rfl (fun ls hl => ?_)
  have lp31 : ∀ (n32 : Nat) (x33 : Int32) (σ35 : Nat → Nat → Int32) (H : Heap) (locs : List Loc) (ls : Array Slot), (A1 - x33.toInt : Int) < n32 → 0 ≤ x33.toInt → x33.toInt ≤ 12 → x33.toInt ≤ A1 → (σ35 55 26).toInt = x33.toInt → (σ35 55 25).toInt = (jcnt (σ 81) ((x33.toInt) : Int).toNat : Int) → (-1) ≤ (σ35 55 27).toInt ∧ (σ35 55 27).toInt ≤ 3 → (∀ i : Nat, (i < 55 ∨ 55 < i) ∧ (i < 68 ∨ 69 < i) → σ35 i = σ15 i) → (∀ k : Nat, (k < 25 ∨ 25 < k) ∧ (k < 26 ∨ 26 < k) ∧ (k < 27 ∨ 27 < k) → σ35 55 k = σ15 55 k) → (∀ k : Nat, k < 4 → 0 ≤ (σ35 68 k).toInt ∧ (σ35 68 k).toInt ≤ 3) → jH D cI cL ad σ35 τ H → va_S (jA ad) s.heap H locs → lv_has ls 4 [(2, .int x33), (0, .ref (ad 55)), (1, .int a1)] → W p l e ({ frames := 1, cells := 0, slots := 0, locals := 24 }) s m args below meth c H locs 0 0 Q (F0 m 6 ls []) := by
    intro n32
    induction n32 with
    | zero => intro x33 σ35 H locs ls h36 h37 h38 h39 h40 h41 h42; exact absurd h36 (by omega)
    | succ n32 ihlp31 =>
      intro x33 σ35 H locs ls h36 h37 h38 h39 h40 h41 h42 f43 f44 w45 hP hS hl
      refine lv_iload_n hx hb dX12_goThroughBook_6 rfl (lv_at hl 0 rfl) ?_
      refine lv_iload_n hx hb dX12_goThroughBook_7 rfl (lv_at hl 2 rfl) ?_
      refine lv_icmp_ge (tgt := 43) hx hb dX12_goThroughBook_8 (by decide) (fun c46 => ?_) (fun c46 => ?_)
      · have kc46 := jle c46 t1 rfl
        have k47 : (jcnt (σ 81) ((x33.toInt) : Int).toNat : Int) = (jcnt (σ 81) ((A1) : Int).toNat : Int) := by rw [show x33.toInt = A1 by omega]
        have z48 : (σ35 55 10).toInt = (σ 55 10).toInt := by rw [(show σ35 55 10 = (σ 55 10) from (by rw [f44 10 (by omega)]; exact (by rw [f18 10 (by omega)])))]
        have z49 : (σ35 55 12).toInt = (σ 55 12).toInt := by rw [(show σ35 55 12 = (σ 55 12) from (by rw [f44 12 (by omega)]; exact (by rw [f18 12 (by omega)])))]
        have I50 : jI120 σ35 := ⟨(by omega), (by omega), (by omega), (by omega), (by omega), w45⟩
        have p51 : jBook σ35 := jBook.fr (by rw [f44 47 (by omega), f18 47 (by omega)]) (by rw [f44 10 (by omega), f18 10 (by omega)]) (by rw [f43 81 (by omega), f17 81 (by omega)]) hs_jBook
        exact hret σ35 τ _ _ _ _ ⟨rfl, (fun i hi => by rw [f43 i (by omega), f17 i (by omega)]), (fun k hk => by rw [f44 k (by omega), f18 k (by omega)]), I50, p51, (by omega), (by omega), (by omega), trivial⟩ hP hS dX12_goThroughBook_43
      · have kc46 := jnle c46 t1 rfl
        have k52 := jcnt_r (σ 81) (K := x33.toInt) (by omega)
        refine lv_aload_n hx hb dX12_goThroughBook_11 rfl (lv_at hl 1 rfl) ?_
        refine lv_aload_n hx hb dX12_goThroughBook_12 rfl (lv_at hl 1 rfl) ?_
        refine va_get (D := D) hx hb hts inlX12 hown hK hP 55 (jc_55 cI cL ad σ35 τ) rfl 48 (by decide) (hts _ kw_8_5) (fun _ h9 => h9) rfl dX12_goThroughBook_13 ?_
        refine lv_iload_n hx hb dX12_goThroughBook_16 rfl (lv_at hl 0 rfl) ?_
        refine jald hx hb hK hP (jc_80 cI cL ad σ35 τ) (jin rfl (by omega) (by omega)) dX12_goThroughBook_17 ?_
        have w53 : ∀ k : Nat, k < 12 → 0 ≤ (σ35 80 k).toInt ∧ (σ35 80 k).toInt ≤ 3 := (by rw [f43 80 (by omega)]; exact (by rw [f17 80 (by omega)]; exact w11))
        have g54 := w53 _ (jnat (x := x33) rfl (n := 12) (by omega) (by decide))
        refine jtopr (y := (σ 80 x33.toNatClampNeg)) (by rw [f43 80 (by omega), f17 80 (by omega)]) ?_
        rw [f43 80 (by omega), f17 80 (by omega)] at g54
        refine lv_aload_n hx hb dX12_goThroughBook_18 rfl (lv_at hl 1 rfl) ?_
        refine va_get (D := D) hx hb hts inlX12 hown hK hP 55 (jc_55 cI cL ad σ35 τ) rfl 49 (by decide) (hts _ kw_8_6) (fun _ h9 => h9) rfl dX12_goThroughBook_19 ?_
        refine lv_iload_n hx hb dX12_goThroughBook_22 rfl (lv_at hl 0 rfl) ?_
        refine jald hx hb hK hP (jc_81 cI cL ad σ35 τ) (jin rfl (by omega) (by omega)) dX12_goThroughBook_23 ?_
        refine jtopr (y := (σ 81 x33.toNatClampNeg)) (by rw [f43 81 (by omega), f17 81 (by omega)]) ?_
        refine lv_iconst (v := 1) hx hb dX12_goThroughBook_24 (by decide) ?_
        refine lv_icmp_ne (tgt := 32) hx hb dX12_goThroughBook_25 (by decide) (fun c55 => ?_) (fun c55 => ?_)
        · have kc55 := jne c55 rfl jz_1
          refine lv_iconst (v := 0) hx hb dX12_goThroughBook_32 (by decide) ?_
          have z56 : (σ35 55 6).toInt = (σ 55 6).toInt := by rw [(show σ35 55 6 = (σ 55 6) from (by rw [f44 6 (by omega)]; exact (by rw [f18 6 (by omega)])))]
          refine jcallV (As := [.int (σ 80 x33.toNatClampNeg), .int 0]) (rest := []) ⟨hx, hb, hml, hown, hts⟩ hK hP hA hS hZ (c_X12_goes_0 l D cI cL ad zz hJ σ35 τ (σ 80 x33.toNatClampNeg) ((σ 80 x33.toNatClampNeg).toInt) rfl w45 (by omega) (by omega) (by omega) (by omega) (by omega)) cw_RX12_296 (jc_55 cI cL ad σ35 τ) rfl ⟨Nat.le_of_ble_eq_true rfl, Nat.le_of_ble_eq_true rfl⟩ rfl rfl rfl hl.1 rfl (Nat.le_of_ble_eq_true rfl) dX12_goThroughBook_33 ⟨Nat.zero_le _, Nat.zero_le _⟩ (fun r58 σ57 τ57 H locs h57 hP hS => ?_)
          obtain ⟨rfl, f59, f60, w61, w62, w63, h57⟩ := h57
          obtain ⟨k64, k65, k66, h57⟩ := h57
          have h67 := h57
          obtain ⟨q73, k68, k69, k70, k71, k72⟩ := h67
          refine lv_istore_n (lv' := [(3, .int r58), (2, .int x33), (0, .ref (ad 55)), (1, .int a1)]) hx hb dX12_goThroughBook_36 rfl hl (by decide) rfl (fun ls hl => ?_)
          obtain ⟨x74, ex74⟩ : ∃ y : Int32, y = x33 + 1 := ⟨_, rfl⟩
          have tx74 : x74.toInt = x33.toInt + 1 := (jadd ex74 rfl jz_1 (by omega) (by omega)).trans (by omega)
          refine lv_iinc (v := x74) (lv' := [(2, .int x74), (3, .int r58), (0, .ref (ad 55)), (1, .int a1)]) hx hb dX12_goThroughBook_37 hl (k := 1) rfl (by rw [ex74]; rfl) (by decide) rfl (fun ls hl => ?_)
          have k75 : (jcnt (σ 81) ((x33.toInt + 1) : Int).toNat : Int) = (jcnt (σ 81) ((x33.toInt) : Int).toNat : Int) := jcnt_non (z := (σ 81 x33.toNatClampNeg)) (by omega) rfl c55
          have k76 : (jcnt (σ 81) ((x74.toInt) : Int).toNat : Int) = (jcnt (σ 81) ((x33.toInt + 1) : Int).toNat : Int) := by rw [tx74]
          refine lv_goto (tgt := 6) hx hb dX12_goThroughBook_40 (by decide) ?_
          exact ihlp31 x74 σ57 _ _ ls (by have h90 := tx74; omega) (by have h90 := tx74; omega) (by have h90 := tx74; omega) (by have h90 := tx74; omega) (by have h90 := tx74; omega) (by have h90 := tx74; omega) (by have h90 := tx74; omega) (fun i hi => by rw [f59 i (by omega), f43 i hi]) (fun k hk => by rw [f60 k (by omega), f44 k hk])  w61 hP hS (lv_sub hl [0, 2, 3] rfl)
        · have kc55 := jeq c55 rfl jz_1
          refine lv_iconst (v := 1) hx hb dX12_goThroughBook_28 (by decide) ?_
          refine lv_goto (tgt := 33) hx hb dX12_goThroughBook_29 (by decide) ?_
          have z77 : (σ35 55 6).toInt = (σ 55 6).toInt := by rw [(show σ35 55 6 = (σ 55 6) from (by rw [f44 6 (by omega)]; exact (by rw [f18 6 (by omega)])))]
          refine jcallV (As := [.int (σ 80 x33.toNatClampNeg), .int 1]) (rest := []) ⟨hx, hb, hml, hown, hts⟩ hK hP hA hS hZ (c_X12_goes_1 l D cI cL ad zz hJ σ35 τ (σ 80 x33.toNatClampNeg) ((σ 80 x33.toNatClampNeg).toInt) rfl w45 (by omega) (by omega) (by omega) (by omega) (by omega)) cw_RX12_296 (jc_55 cI cL ad σ35 τ) rfl ⟨Nat.le_of_ble_eq_true rfl, Nat.le_of_ble_eq_true rfl⟩ rfl rfl rfl hl.1 rfl (Nat.le_of_ble_eq_true rfl) dX12_goThroughBook_33 ⟨Nat.zero_le _, Nat.zero_le _⟩ (fun r79 σ78 τ78 H locs h78 hP hS => ?_)
          obtain ⟨rfl, f80, f81, w82, w83, w84, h78⟩ := h78
          obtain ⟨k85, k86, k87, h78⟩ := h78
          have h88 := h78
          obtain ⟨q94, k89, k90, k91, k92, k93⟩ := h88
          refine lv_istore_n (lv' := [(3, .int r79), (2, .int x33), (0, .ref (ad 55)), (1, .int a1)]) hx hb dX12_goThroughBook_36 rfl hl (by decide) rfl (fun ls hl => ?_)
          obtain ⟨x95, ex95⟩ : ∃ y : Int32, y = x33 + 1 := ⟨_, rfl⟩
          have tx95 : x95.toInt = x33.toInt + 1 := (jadd ex95 rfl jz_1 (by omega) (by omega)).trans (by omega)
          refine lv_iinc (v := x95) (lv' := [(2, .int x95), (3, .int r79), (0, .ref (ad 55)), (1, .int a1)]) hx hb dX12_goThroughBook_37 hl (k := 1) rfl (by rw [ex95]; rfl) (by decide) rfl (fun ls hl => ?_)
          have k96 : (jcnt (σ 81) ((x33.toInt + 1) : Int).toNat : Int) = (jcnt (σ 81) ((x33.toInt) : Int).toNat : Int) + 1 := jcnt_one (z := (σ 81 x33.toNatClampNeg)) (by omega) rfl c55
          have k97 : (jcnt (σ 81) ((x95.toInt) : Int).toNat : Int) = (jcnt (σ 81) ((x33.toInt + 1) : Int).toNat : Int) := by rw [tx95]
          refine lv_goto (tgt := 6) hx hb dX12_goThroughBook_40 (by decide) ?_
          exact ihlp31 x95 σ78 _ _ ls (by have h90 := tx95; omega) (by have h90 := tx95; omega) (by have h90 := tx95; omega) (by have h90 := tx95; omega) (by have h90 := tx95; omega) (by have h90 := tx95; omega) (by have h90 := tx95; omega) (fun i hi => by rw [f80 i (by omega), f43 i hi]) (fun k hk => by rw [f81 k (by omega), f44 k hk])  w82 hP hS (lv_sub hl [0, 2, 3] rfl)
  exact lp31 1000000 0 σ15 _ _ ls (by have h90 := jz_0; omega) (by have h90 := jz_0; omega) (by have h90 := jz_0; omega) (by have h90 := jz_0; omega) (by have h90 := jz_0; omega) (by have h90 := jz_0; omega) (by have h90 := jz_0; omega) (fun _ _ => rfl) (fun _ _ => rfl)  w25 hP hS hl
set_option maxHeartbeats 4000000 in
set_option maxRecDepth 100000 in
theorem c_X12_isBig (l : Launch) (D : va_G) (cI cL : ClassId) (ad zz : Nat → Nat) (hJ : jD ad) (σ : Nat → Nat → Int32) (τ : Nat → Nat → Int64) (hI104 : jI104 σ) (hp0 : 0 ≤ (σ 55 26).toInt ∧ (σ 55 26).toInt ≤ 12) : jM l yX12_isBig cX12_isBig 1 (some .boolean) ({ frames := 0, cells := 0, slots := 0, locals := 0 }) D cI cL ad zz [.ref (ad 55)] σ τ (fun r σ' τ' => (σ = σ' ∧ τ = τ') ∧ ((r = 1 ∧ (8 < (σ 55 12).toInt - (σ 55 26).toInt)) ∨ (r = 0 ∧ ((σ 55 12).toInt - (σ 55 26).toInt ≤ 8)))) := by
  refine jM.of hJ (by decide +kernel) (nt := .boolean) rfl (Nat.le_of_ble_eq_true rfl) ?_
  intro p e s m args below meth c Q ls hC hret hl hP
  obtain ⟨hx, hb, hr, hml, hown, hts, hK, -, hlocks, hZ⟩ := hC
  have hown : s.vm.findClass RX12 = some m.cls := hown
  have hS : va_S (jA ad) s.heap s.heap [] := va_S.rf
  have hA : ∀ q, jA ad q → jA ad q := fun _ h => h
  have hl : lv_has ls 1 [(0, .ref (ad 55))] := hl
  obtain ⟨i1, i2, i3, w4, w5⟩ : (1 ≤ (σ 55 10).toInt ∧ (σ 55 10).toInt ≤ 8) ∧ (1 ≤ (σ 55 12).toInt ∧ (σ 55 12).toInt ≤ 12) ∧ (0 ≤ (σ 55 13).toInt ∧ (σ 55 13).toInt ≤ 999) ∧ (∀ k : Nat, k < 8 → 0 ≤ (σ 62 k).toInt ∧ (σ 62 k).toInt ≤ 3) ∧ (∀ k : Nat, k < 8 → 0 ≤ (σ 67 k).toInt ∧ (σ 67 k).toInt ≤ 3) := id hI104
  refine lv_aload_n hx hb dX12_isBig_0 rfl (lv_at hl 0 rfl) ?_
  refine va_get (D := D) hx hb hts inlX12 hown hK hP 55 (jc_55 cI cL ad σ τ) rfl 12 (by decide) (hts _ kw_8_16) (fun _ h9 => h9) rfl dX12_isBig_1 ?_
  refine lv_aload_n hx hb dX12_isBig_4 rfl (lv_at hl 0 rfl) ?_
  refine va_get (D := D) hx hb hts inlX12 hown hK hP 55 (jc_55 cI cL ad σ τ) rfl 26 (by decide) (hts _ kw_23_5) (fun _ h9 => h9) rfl dX12_isBig_5 ?_
  have g6 := jrg (rfl : (σ 55 12).toInt = (σ 55 12).toInt)
  have g7 := jrg (rfl : (σ 55 26).toInt = (σ 55 26).toInt)
  refine lv_isub hx hb dX12_isBig_8 ?_
  refine lv_topi (fun x8 ex8 => ?_)
  have tx8 : x8.toInt = (σ 55 12).toInt - (σ 55 26).toInt := (jsub ex8 rfl rfl (by omega) (by omega)).trans (by omega)
  refine lv_bipush (v := 8) hx hb dX12_isBig_9 (by decide) ?_
  refine lv_icmp_le (tgt := 18) hx hb dX12_isBig_11 (by decide) (fun c9 => ?_) (fun c9 => ?_)
  · have kc9 := jle c9 tx8 jz_8
    refine lv_iconst (v := 0) hx hb dX12_isBig_18 (by decide) ?_
    exact hret 0 σ τ _ _ _ _ rfl ⟨⟨rfl, rfl⟩, Or.inr (⟨rfl, (by have h9 := jz_0; omega)⟩)⟩ hP hS dX12_isBig_19
  · have kc9 := jnle c9 tx8 jz_8
    refine lv_iconst (v := 1) hx hb dX12_isBig_14 (by decide) ?_
    refine lv_goto (tgt := 19) hx hb dX12_isBig_15 (by decide) ?_
    exact hret 1 σ τ _ _ _ _ rfl ⟨⟨rfl, rfl⟩, Or.inl ⟨rfl, (by have h9 := jz_1; omega)⟩⟩ hP hS dX12_isBig_19
set_option maxHeartbeats 4000000 in
set_option maxRecDepth 100000 in
theorem c_X12_isRule (l : Launch) (D : va_G) (cI cL : ClassId) (ad zz : Nat → Nat) (hJ : jD ad) (σ : Nat → Nat → Int32) (τ : Nat → Nat → Int64) (a1 : Int32) (A1 : Int) (t1 : a1.toInt = A1) (hI106 : jI106 σ) : jM l yX12_isRule cX12_isRule 2 (some .boolean) ({ frames := 1, cells := 0, slots := 0, locals := 25 }) D cI cL ad zz [.ref (ad 55), .int a1] σ τ (fun r σ' τ' => (σ = σ' ∧ τ = τ') ∧ ((r = 1 ∧ (0 ≤ A1 ∧ A1 < (σ 55 32).toInt)) ∨ (r = 0 ∧ ((A1 < 0) ∨ ((σ 55 32).toInt ≤ A1))))) := by
  refine jM.of hJ (by decide +kernel) (nt := .boolean) rfl (Nat.le_of_ble_eq_true rfl) ?_
  intro p e s m args below meth c Q ls hC hret hl hP
  obtain ⟨hx, hb, hr, hml, hown, hts, hK, -, hlocks, hZ⟩ := hC
  have hown : s.vm.findClass RX12 = some m.cls := hown
  have hS : va_S (jA ad) s.heap s.heap [] := va_S.rf
  have hA : ∀ q, jA ad q → jA ad q := fun _ h => h
  have hl : lv_has ls 2 [(0, .ref (ad 55)), (1, .int a1)] := hl
  have g1 := jrg t1
  obtain ⟨i1, w2, w3, w4⟩ : (0 ≤ (σ 55 32).toInt ∧ (σ 55 32).toInt ≤ 20) ∧ (∀ k : Nat, k < 20 → 0 ≤ (σ 70 k).toInt ∧ (σ 70 k).toInt ≤ 6) ∧ (∀ k : Nat, k < 20 → 0 ≤ (σ 71 k).toInt ∧ (σ 71 k).toInt ≤ 8) ∧ (∀ k : Nat, k < 160 → 0 ≤ (σ 72 k).toInt ∧ (σ 72 k).toInt ≤ 3) := id hI106
  refine lv_iload_n hx hb dX12_isRule_0 rfl (lv_at hl 1 rfl) ?_
  refine lv_i2l (v := a1.toInt64) hx hb dX12_isRule_1 rfl ?_
  refine lv_lconst (v := 0) hx hb dX12_isRule_2 (by decide) ?_
  refine lv_aload_n hx hb dX12_isRule_3 rfl (lv_at hl 0 rfl) ?_
  refine va_get (D := D) hx hb hts inlX12 hown hK hP 55 (jc_55 cI cL ad σ τ) rfl 32 (by decide) (hts _ kw_25_1) (fun _ h9 => h9) rfl dX12_isRule_4 ?_
  refine lv_iconst (v := 1) hx hb dX12_isRule_7 (by decide) ?_
  have g5 := jrg (rfl : (σ 55 32).toInt = (σ 55 32).toInt)
  refine lv_isub hx hb dX12_isRule_8 ?_
  refine lv_topi (fun x6 ex6 => ?_)
  have tx6 : x6.toInt = (σ 55 32).toInt - 1 := (jsub ex6 rfl jz_1 (by omega) (by omega)).trans (by omega)
  refine lv_i2l (v := x6.toInt64) hx hb dX12_isRule_9 rfl ?_
  refine jcallS (As := [.long a1.toInt64, .long 0, .long x6.toInt64]) (rest := []) ⟨hx, hb, hml, hown, hts⟩ hK hP hA hS hZ (c_X12_within l D cI cL ad zz hJ σ τ a1.toInt64 (A1) (jtoL t1) 0 (0) jzl_0 x6.toInt64 ((σ 55 32).toInt - 1) (jtoL tx6)) cw_RX12_136 ⟨Nat.le_of_ble_eq_true rfl, Nat.le_of_ble_eq_true rfl⟩ rfl rfl rfl hl.1 rfl (Nat.le_of_ble_eq_true rfl) dX12_isRule_10 ⟨Nat.zero_le _, Nat.zero_le _⟩ (fun r8 σ7 τ7 H locs h7 hP hS => ?_)
  obtain ⟨⟨rfl, rfl⟩, h7⟩ := h7
  rcases h7 with h9 | h10
  · obtain ⟨q12, k11⟩ := h9
    have q12 := q12.symm
    subst q12
    exact hret 1 σ τ _ _ _ _ rfl ⟨⟨rfl, rfl⟩, Or.inl ⟨rfl, (by have h9 := jz_1; omega)⟩⟩ hP hS dX12_isRule_13
  · obtain ⟨q14, k13⟩ := h10
    have q14 := q14.symm
    subst q14
    exact hret 0 σ τ _ _ _ _ rfl ⟨⟨rfl, rfl⟩, Or.inr (⟨rfl, (by have h9 := jz_0; omega)⟩)⟩ hP hS dX12_isRule_13
set_option maxHeartbeats 4000000 in
set_option maxRecDepth 100000 in
theorem c_X12_book (l : Launch) (D : va_G) (cI cL : ClassId) (ad zz : Nat → Nat) (hJ : jD ad) (σ : Nat → Nat → Int32) (τ : Nat → Nat → Int64) (a1 : Int32) (A1 : Int) (t1 : a1.toInt = A1) (a2 : Int32) (A2 : Int) (t2 : a2.toInt = A2) (hI102 : jI102 σ) (hI104 : jI104 σ) (hI107 : jI107 σ) (hw68 : ∀ k : Nat, k < 4 → 0 ≤ (σ 68 k).toInt ∧ (σ 68 k).toInt ≤ 3) (hs_jBook : jBook σ) : jM l yX12_book cX12_book 3 (some .int) ({ frames := 3, cells := 0, slots := 0, locals := 63 }) D cI cL ad zz [.ref (ad 55), .int a1, .int a2] σ τ (fun r σ' τ' => τ = τ' ∧ (∀ i : Nat, (i < 55 ∨ 55 < i) ∧ (i < 68 ∨ 69 < i) ∧ (i < 80 ∨ 81 < i) → σ' i = σ i) ∧ (∀ k : Nat, (k < 25 ∨ 25 < k) ∧ (k < 26 ∨ 26 < k) ∧ (k < 27 ∨ 27 < k) ∧ (k < 47 ∨ 47 < k) → σ' 55 k = σ 55 k) ∧ (jI107 σ') ∧ (∀ k : Nat, k < 4 → 0 ≤ (σ' 68 k).toInt ∧ (σ' 68 k).toInt ≤ 3) ∧ (jBook σ') ∧ ((True ∧ (1 ≤ r.toInt) ∧ ((σ' 55 47).toInt = (σ 55 47).toInt + 1)) ∨ (True ∧ (r.toInt ≤ 0) ∧ ((σ' 55 47).toInt = (σ 55 47).toInt)))) := by
  refine jM.of hJ (by decide +kernel) (nt := .int) rfl (Nat.le_of_ble_eq_true rfl) ?_
  intro p e s m args below meth c Q ls hC hret hl hP
  obtain ⟨hx, hb, hr, hml, hown, hts, hK, -, hlocks, hZ⟩ := hC
  have hown : s.vm.findClass RX12 = some m.cls := hown
  have hS : va_S (jA ad) s.heap s.heap [] := va_S.rf
  have hA : ∀ q, jA ad q → jA ad q := fun _ h => h
  have hl : lv_has ls 3 [(0, .ref (ad 55)), (1, .int a1), (2, .int a2)] := hl
  have g1 := jrg t1
  have g2 := jrg t2
  obtain ⟨i1, w2, w3⟩ : (0 ≤ (σ 55 6).toInt ∧ (σ 55 6).toInt ≤ 4) ∧ (∀ k : Nat, k < 4 → 0 ≤ (σ 60 k).toInt ∧ (σ 60 k).toInt ≤ 50) ∧ (∀ k : Nat, k < 4 → 0 ≤ (σ 61 k).toInt ∧ (σ 61 k).toInt ≤ 20) := id hI102
  obtain ⟨i4, i5, i6, w7, w8⟩ : (1 ≤ (σ 55 10).toInt ∧ (σ 55 10).toInt ≤ 8) ∧ (1 ≤ (σ 55 12).toInt ∧ (σ 55 12).toInt ≤ 12) ∧ (0 ≤ (σ 55 13).toInt ∧ (σ 55 13).toInt ≤ 999) ∧ (∀ k : Nat, k < 8 → 0 ≤ (σ 62 k).toInt ∧ (σ 62 k).toInt ≤ 3) ∧ (∀ k : Nat, k < 8 → 0 ≤ (σ 67 k).toInt ∧ (σ 67 k).toInt ≤ 3) := id hI104
  obtain ⟨i9, i10, w11⟩ : (0 ≤ (σ 55 47).toInt ∧ (σ 55 47).toInt ≤ 12) ∧ ((σ 55 47).toInt ≤ (σ 55 12).toInt) ∧ (∀ k : Nat, k < 12 → 0 ≤ (σ 80 k).toInt ∧ (σ 80 k).toInt ≤ 3) := id hI107
  refine lv_aload_n hx hb dX12_book_0 rfl (lv_at hl 0 rfl) ?_
  refine lv_iload_n hx hb dX12_book_1 rfl (lv_at hl 1 rfl) ?_
  have I12 : jI102 σ := ⟨(by omega), w2, w3⟩
  refine jcallV (As := [.int a1]) (rest := []) ⟨hx, hb, hml, hown, hts⟩ hK hP hA hS hZ (c_X12_isBowler l D cI cL ad zz hJ σ τ a1 (A1) t1 I12) cw_RX12_146 (jc_55 cI cL ad σ τ) rfl ⟨Nat.le_of_ble_eq_true rfl, Nat.le_of_ble_eq_true rfl⟩ rfl rfl rfl hl.1 rfl (Nat.le_of_ble_eq_true rfl) dX12_book_2 ⟨Nat.zero_le _, Nat.zero_le _⟩ (fun r14 σ13 τ13 H locs h13 hP hS => ?_)
  obtain ⟨⟨rfl, rfl⟩, h13⟩ := h13
  rcases h13 with h15 | h16
  · obtain ⟨q18, k17⟩ := h15
    have q18 := q18.symm
    subst q18
    refine lv_if_eq (tgt := 18) hx hb dX12_book_5 (by decide) (fun c => absurd c (by decide)) (fun _ => ?_)
    refine lv_iload_n hx hb dX12_book_8 rfl (lv_at hl 2 rfl) ?_
    refine lv_i2l (v := a2.toInt64) hx hb dX12_book_9 rfl ?_
    refine lv_lconst (v := 0) hx hb dX12_book_10 (by decide) ?_
    refine lv_lconst (v := 1) hx hb dX12_book_11 (by decide) ?_
    refine jcallS (As := [.long a2.toInt64, .long 0, .long 1]) (rest := []) ⟨hx, hb, hml, hown, hts⟩ hK hP hA hS hZ (c_X12_within l D cI cL ad zz hJ σ τ a2.toInt64 (A2) (jtoL t2) 0 (0) jzl_0 1 (1) jzl_1) cw_RX12_136 ⟨Nat.le_of_ble_eq_true rfl, Nat.le_of_ble_eq_true rfl⟩ rfl rfl rfl hl.1 rfl (Nat.le_of_ble_eq_true rfl) dX12_book_12 ⟨Nat.zero_le _, Nat.zero_le _⟩ (fun r20 σ19 τ19 H locs h19 hP hS => ?_)
    obtain ⟨⟨rfl, rfl⟩, h19⟩ := h19
    rcases h19 with h21 | h22
    · obtain ⟨q24, k23⟩ := h21
      have q24 := q24.symm
      subst q24
      refine lv_if_ne (tgt := 20) hx hb dX12_book_15 (by decide) (fun _ => ?_) (fun c => absurd c (by decide))
      refine lv_aload_n hx hb dX12_book_20 rfl (lv_at hl 0 rfl) ?_
      refine lv_aload_n hx hb dX12_book_21 rfl (lv_at hl 0 rfl) ?_
      refine va_get (D := D) hx hb hts inlX12 hown hK hP 55 (jc_55 cI cL ad σ τ) rfl 47 (by decide) (hts _ kw_15_15) (fun _ h9 => h9) rfl dX12_book_22 ?_
      have I25 : jI104 σ := ⟨(by omega), (by omega), (by omega), w7, w8⟩
      have I26 : jI107 σ := ⟨(by omega), (by omega), w11⟩
      refine jcallVv (As := [.int (σ 55 47)]) (rest := []) ⟨hx, hb, hml, hown, hts⟩ hK hP hA hS hZ (c_X12_goThroughBook l D cI cL ad zz hJ σ τ (σ 55 47) ((σ 55 47).toInt) rfl I12 I25 I26 hw68 hs_jBook (by omega) (by omega)) cw_RX12_334 (jc_55 cI cL ad σ τ) rfl ⟨Nat.le_of_ble_eq_true rfl, Nat.le_of_ble_eq_true rfl⟩ rfl rfl rfl hl.1 rfl (Nat.le_of_ble_eq_true rfl) dX12_book_25 ⟨Nat.zero_le _, Nat.zero_le _⟩ (fun σ27 τ27 H locs h27 hP hS => ?_)
      obtain ⟨rfl, f29, f30, I31, p32, h27⟩ := h27
      obtain ⟨i33, i34, i35, i36, i37, w38⟩ : (0 ≤ (σ27 55 25).toInt) ∧ ((σ27 55 25).toInt ≤ (σ27 55 10).toInt) ∧ (0 ≤ (σ27 55 26).toInt) ∧ ((σ27 55 26).toInt ≤ (σ27 55 12).toInt) ∧ ((-1) ≤ (σ27 55 27).toInt ∧ (σ27 55 27).toInt ≤ 3) ∧ (∀ k : Nat, k < 4 → 0 ≤ (σ27 68 k).toInt ∧ (σ27 68 k).toInt ≤ 3) := id I31
      have z39 : (σ27 55 10).toInt = (σ 55 10).toInt := by rw [(show σ27 55 10 = (σ 55 10) from (by rw [f30 10 (by omega)]))]
      have z40 : (σ27 55 12).toInt = (σ 55 12).toInt := by rw [(show σ27 55 12 = (σ 55 12) from (by rw [f30 12 (by omega)]))]
      obtain ⟨k41, k42, k43, h27⟩ := h27
      refine lv_aload_n hx hb dX12_book_28 rfl (lv_at hl 0 rfl) ?_
      have z44 : (σ27 55 6).toInt = (σ 55 6).toInt := by rw [(show σ27 55 6 = (σ 55 6) from (by rw [f30 6 (by omega)]))]
      have w45 : ∀ k : Nat, k < 4 → 0 ≤ (σ27 60 k).toInt ∧ (σ27 60 k).toInt ≤ 50 := (by rw [f29 60 (by omega)]; exact w2)
      have w46 : ∀ k : Nat, k < 4 → 0 ≤ (σ27 61 k).toInt ∧ (σ27 61 k).toInt ≤ 20 := (by rw [f29 61 (by omega)]; exact w3)
      have I47 : jI102 σ27 := ⟨(by omega), w45, w46⟩
      have z48 : (σ27 55 13).toInt = (σ 55 13).toInt := by rw [(show σ27 55 13 = (σ 55 13) from (by rw [f30 13 (by omega)]))]
      have w49 : ∀ k : Nat, k < 8 → 0 ≤ (σ27 62 k).toInt ∧ (σ27 62 k).toInt ≤ 3 := (by rw [f29 62 (by omega)]; exact w7)
      have w50 : ∀ k : Nat, k < 8 → 0 ≤ (σ27 67 k).toInt ∧ (σ27 67 k).toInt ≤ 3 := (by rw [f29 67 (by omega)]; exact w8)
      have I51 : jI104 σ27 := ⟨(by omega), (by omega), (by omega), w49, w50⟩
      refine jcallV (As := []) (rest := []) ⟨hx, hb, hml, hown, hts⟩ hK hP hA hS hZ (c_X12_isEnded l D cI cL ad zz hJ σ27 τ I47 I51 I31) cw_RX12_307 (jc_55 cI cL ad σ27 τ) rfl ⟨Nat.le_of_ble_eq_true rfl, Nat.le_of_ble_eq_true rfl⟩ rfl rfl rfl hl.1 rfl (Nat.le_of_ble_eq_true rfl) dX12_book_29 ⟨Nat.zero_le _, Nat.zero_le _⟩ (fun r53 σ52 τ52 H locs h52 hP hS => ?_)
      obtain ⟨⟨rfl, rfl⟩, h52⟩ := h52
      rcases h52 with h54 | h55
      · obtain ⟨q57, k56⟩ := h54
        have q57 := q57.symm
        subst q57
        refine lv_if_ne (tgt := 43) hx hb dX12_book_32 (by decide) (fun _ => ?_) (fun c => absurd c (by decide))
        refine lv_bipush (v := (-5)) hx hb dX12_book_43 (by decide) ?_
        have z58 : (σ27 55 47).toInt = (σ 55 47).toInt := by rw [(show σ27 55 47 = (σ 55 47) from (by rw [f30 47 (by omega)]))]
        have w59 : ∀ k : Nat, k < 12 → 0 ≤ (σ27 80 k).toInt ∧ (σ27 80 k).toInt ≤ 3 := (by rw [f29 80 (by omega)]; exact w11)
        have I60 : jI107 σ27 := ⟨(by omega), (by omega), w59⟩
        exact hret (-5) σ27 τ _ _ _ _ rfl ⟨rfl, (fun i hi => by rw [f29 i (by omega)]), (fun k hk => by rw [f30 k (by omega)]), I60, w38, p32, Or.inr (⟨trivial, (by have h9 := jz_m5; omega), (by have h9 := jz_m5; omega)⟩)⟩ hP hS dX12_book_45
      · obtain ⟨q64, k61, k62, k63⟩ := h55
        have q64 := q64.symm
        subst q64
        obtain ⟨B65, k66, k67, w68⟩ := k63
        refine lv_if_ne (tgt := 43) hx hb dX12_book_32 (by decide) (fun c => absurd (by decide) c) (fun _ => ?_)
        refine lv_aload_n hx hb dX12_book_35 rfl (lv_at hl 0 rfl) ?_
        refine lv_iload_n hx hb dX12_book_36 rfl (lv_at hl 1 rfl) ?_
        refine jcallV (As := [.int a1]) (rest := []) ⟨hx, hb, hml, hown, hts⟩ hK hP hA hS hZ (c_X12_mayBowl l D cI cL ad zz hJ σ27 τ a1 (A1) t1 (by omega)) cw_RX12_249 (jc_55 cI cL ad σ27 τ) rfl ⟨Nat.le_of_ble_eq_true rfl, Nat.le_of_ble_eq_true rfl⟩ rfl rfl rfl hl.1 rfl (Nat.le_of_ble_eq_true rfl) dX12_book_37 ⟨Nat.zero_le _, Nat.zero_le _⟩ (fun r70 σ69 τ69 H locs h69 hP hS => ?_)
        obtain ⟨⟨rfl, rfl⟩, h69⟩ := h69
        rcases h69 with h71 | h72
        · obtain ⟨q74, k73⟩ := h71
          have q74 := q74.symm
          subst q74
          refine lv_if_ne (tgt := 46) hx hb dX12_book_40 (by decide) (fun _ => ?_) (fun c => absurd c (by decide))
          refine lv_aload_n hx hb dX12_book_46 rfl (lv_at hl 0 rfl) ?_
          refine va_get (D := D) hx hb hts inlX12 hown hK hP 55 (jc_55 cI cL ad σ27 τ) rfl 47 (by decide) (hts _ kw_15_15) (fun _ h9 => h9) rfl dX12_book_47 ?_
          have m75 : σ27 55 47 = (σ 55 47) := (by rw [f30 47 (by omega)])
          refine jtopr m75 ?_
          refine lv_bipush (v := 12) hx hb dX12_book_50 (by decide) ?_
          refine lv_icmp_ne (tgt := 58) hx hb dX12_book_52 (by decide) (fun c76 => ?_) (fun c => absurd (jeq c rfl jz_12) (by omega))
          have kc76 := jne c76 rfl jz_12
          refine lv_aload_n hx hb dX12_book_58 rfl (lv_at hl 0 rfl) ?_
          refine va_get (D := D) hx hb hts inlX12 hown hK hP 55 (jc_55 cI cL ad σ27 τ) rfl 48 (by decide) (hts _ kw_8_5) (fun _ h9 => h9) rfl dX12_book_59 ?_
          refine lv_aload_n hx hb dX12_book_62 rfl (lv_at hl 0 rfl) ?_
          refine va_get (D := D) hx hb hts inlX12 hown hK hP 55 (jc_55 cI cL ad σ27 τ) rfl 47 (by decide) (hts _ kw_15_15) (fun _ h9 => h9) rfl dX12_book_63 ?_
          refine jtopr m75 ?_
          refine lv_iload_n hx hb dX12_book_66 rfl (lv_at hl 1 rfl) ?_
          refine jast hx hb hK hP hJ hA hS (jc_80 cI cL ad σ27 τ) (ja_80 cI cL ad σ27 τ _ _) (jin rfl (by omega) (by omega)) dX12_book_67 (fun σ77 H locs eσ77 hP hS => ?_)
          refine lv_aload_n hx hb dX12_book_68 rfl (lv_at hl 0 rfl) ?_
          refine va_get (D := D) hx hb hts inlX12 hown hK hP 55 (jc_55 cI cL ad σ77 τ) rfl 49 (by decide) (hts _ kw_8_6) (fun _ h9 => h9) rfl dX12_book_69 ?_
          refine lv_aload_n hx hb dX12_book_72 rfl (lv_at hl 0 rfl) ?_
          refine va_get (D := D) hx hb hts inlX12 hown hK hP 55 (jc_55 cI cL ad σ77 τ) rfl 47 (by decide) (hts _ kw_15_15) (fun _ h9 => h9) rfl dX12_book_73 ?_
          have m78 : σ77 55 47 = (σ 55 47) := (by rw [eσ77, jup_n (by decide)]; exact m75)
          refine jtopr m78 ?_
          refine lv_iload_n hx hb dX12_book_76 rfl (lv_at hl 2 rfl) ?_
          refine jast hx hb hK hP hJ hA hS (jc_81 cI cL ad σ77 τ) (ja_81 cI cL ad σ77 τ _ _) (jin rfl (by omega) (by omega)) dX12_book_77 (fun σ79 H locs eσ79 hP hS => ?_)
          refine lv_aload_n hx hb dX12_book_78 rfl (lv_at hl 0 rfl) ?_
          refine lv_dup hx hb dX12_book_79 rfl ?_
          refine va_get (D := D) hx hb hts inlX12 hown hK hP 55 (jc_55 cI cL ad σ79 τ) rfl 47 (by decide) (hts _ kw_15_15) (fun _ h9 => h9) rfl dX12_book_80 ?_
          have m80 : σ79 55 47 = (σ 55 47) := (by rw [eσ79, jup_n (by decide)]; exact m78)
          refine jtopr m80 ?_
          refine lv_iconst (v := 1) hx hb dX12_book_83 (by decide) ?_
          have g81 := jrg (rfl : (σ 55 47).toInt = (σ 55 47).toInt)
          refine lv_iadd hx hb dX12_book_84 ?_
          refine lv_topi (fun x82 ex82 => ?_)
          have tx82 : x82.toInt = (σ 55 47).toInt + 1 := (jadd ex82 rfl jz_1 (by omega) (by omega)).trans (by omega)
          refine jput (ty := .int) hx hb hts inlX12 tyX12 tyX12_ok nmX12 hown hK hP hJ hA hS (jc_55 cI cL ad σ79 τ) rfl (k := 47) (by decide) (Nat.le_of_ble_eq_true rfl) (jp_55_47 cI cL ad σ79 τ x82) (hts _ kw_15_15) (fun _ h9 => h9) rfl (by decide +kernel) rfl rfl dX12_book_85 (fun σ83 H locs eσ83 hP hS => ?_)
          have z84 : (σ27 55 47).toInt = (σ 55 47).toInt := by rw [(show σ27 55 47 = (σ 55 47) from (by rw [f30 47 (by omega)]))]
          have z85 : (σ83 55 47).toInt = (σ 55 47).toInt + 1 := by rw [(show σ83 55 47 = x82 from (by rw [eσ83]; exact jup_s))]; exact tx82
          have z86 : (σ27 55 10).toInt = (σ 55 10).toInt := by rw [(show σ27 55 10 = (σ 55 10) from (by rw [f30 10 (by omega)]))]
          have z87 : (σ83 55 10).toInt = (σ 55 10).toInt := by rw [(show σ83 55 10 = (σ 55 10) from (by rw [eσ83, jup_k (by decide)]; exact (by rw [eσ79, jup_n (by decide)]; exact (by rw [eσ77, jup_n (by decide)]; exact (by rw [f30 10 (by omega)])))))]
          have z88 : (σ83 55 25).toInt = (σ27 55 25).toInt := by rw [(show σ83 55 25 = (σ27 55 25) from (by rw [eσ83, jup_k (by decide)]; exact (by rw [eσ79, jup_n (by decide)]; exact (by rw [eσ77, jup_n (by decide)]))))]
          have k89 : (jcnt (σ27 81) (σ27 55 47).toInt.toNat : Int) < (σ27 55 10).toInt := by
            rw [(show σ27 81 = σ 81 from (by rw [f29 81 (by omega)])), (show σ27 55 47 = σ 55 47 from (by rw [f30 47 (by omega)]))]
            omega
          have e90 : σ83 81 = jupd (σ27 81) (σ27 55 47).toInt.toNat a2 := by
            rw [eσ83, jup_n (by decide), eσ79, jup_row, eσ77, jup_n (by decide)]; rw [show (σ 55 47) = σ27 55 47 from (show σ27 55 47 = (σ 55 47) from (by rw [f30 47 (by omega)])).symm]; rfl
          have p91 : jBook σ83 := p32.on rfl (by omega) (by omega) (by rw [eσ83, jup_k (by decide), eσ79, jup_n (by decide), eσ77, jup_n (by decide)]) e90 k89
          refine lv_aload_n hx hb dX12_book_88 rfl (lv_at hl 0 rfl) ?_
          refine va_get (D := D) hx hb hts inlX12 hown hK hP 55 (jc_55 cI cL ad σ83 τ) rfl 47 (by decide) (hts _ kw_15_15) (fun _ h9 => h9) rfl dX12_book_89 ?_
          have m92 : σ83 55 47 = x82 := (by rw [eσ83]; exact jup_s)
          refine jtopr m92 ?_
          have z93 : (σ83 55 12).toInt = (σ 55 12).toInt := by rw [(show σ83 55 12 = (σ 55 12) from (by rw [eσ83, jup_k (by decide)]; exact (by rw [eσ79, jup_n (by decide)]; exact (by rw [eσ77, jup_n (by decide)]; exact (by rw [f30 12 (by omega)])))))]
          have w94 : ∀ k : Nat, k < 12 → 0 ≤ (σ83 80 k).toInt ∧ (σ83 80 k).toInt ≤ 3 := (by rw [eσ83, jup_n (by decide)]; exact (by rw [eσ79, jup_n (by decide)]; exact (by rw [eσ77]; exact jrr_up (by rw [f29 80 (by omega)]; exact w11) (by have h9 := t1; omega) (by have h9 := t1; omega))))
          have I95 : jI107 σ83 := ⟨(by omega), (by omega), w94⟩
          have w96 : ∀ k : Nat, k < 4 → 0 ≤ (σ83 68 k).toInt ∧ (σ83 68 k).toInt ≤ 3 := (by rw [eσ83, jup_n (by decide)]; exact (by rw [eσ79, jup_n (by decide)]; exact (by rw [eσ77, jup_n (by decide)]; exact w38)))
          exact hret x82 σ83 τ _ _ _ _ rfl ⟨rfl, (fun i hi => by rw [eσ83, jup_n (by omega), eσ79, jup_n (by omega), eσ77, jup_n (by omega), f29 i (by omega)]), (fun k hk => by rw [eσ83, jup_k (by omega), eσ79, jup_n (by decide), eσ77, jup_n (by decide), f30 k (by omega)]), I95, w96, p91, Or.inl ⟨trivial, (by have h9 := tx82; omega), (by have h9 := tx82; omega)⟩⟩ hP hS dX12_book_92
        · obtain ⟨q98, k97⟩ := h72
          have q98 := q98.symm
          subst q98
          have e99 : jmb σ27 a1 = jmb σ27 a1 := (jmb_fr rfl rfl rfl rfl rfl a1)
          have n100 : ¬ a1 = B65 := fun h => absurd ((w68).symm.trans (by rw [← h]; exact e99.symm.trans k97) : (1 : Int32) = 0) (by decide)
          have k101 := jne n100 t1 rfl
          refine lv_if_ne (tgt := 46) hx hb dX12_book_40 (by decide) (fun c => absurd (by decide) c) (fun _ => ?_)
          refine lv_bipush (v := (-5)) hx hb dX12_book_43 (by decide) ?_
          have z102 : (σ27 55 47).toInt = (σ 55 47).toInt := by rw [(show σ27 55 47 = (σ 55 47) from (by rw [f30 47 (by omega)]))]
          have w103 : ∀ k : Nat, k < 12 → 0 ≤ (σ27 80 k).toInt ∧ (σ27 80 k).toInt ≤ 3 := (by rw [f29 80 (by omega)]; exact w11)
          have I104 : jI107 σ27 := ⟨(by omega), (by omega), w103⟩
          exact hret (-5) σ27 τ _ _ _ _ rfl ⟨rfl, (fun i hi => by rw [f29 i (by omega)]), (fun k hk => by rw [f30 k (by omega)]), I104, w38, p32, Or.inr (⟨trivial, (by have h9 := jz_m5; omega), (by have h9 := jz_m5; omega)⟩)⟩ hP hS dX12_book_45
    · obtain ⟨q106, k105⟩ := h22
      have q106 := q106.symm
      subst q106
      refine lv_if_ne (tgt := 20) hx hb dX12_book_15 (by decide) (fun c => absurd (by decide) c) (fun _ => ?_)
      refine lv_iconst (v := (-1)) hx hb dX12_book_18 (by decide) ?_
      have I107 : jI107 σ := ⟨(by omega), (by omega), w11⟩
      exact hret (-1) σ τ _ _ _ _ rfl ⟨rfl, (fun _ _ => rfl), (fun _ _ => rfl), I107, hw68, hs_jBook, Or.inr (⟨trivial, (by have h9 := jz_m1; omega), (by have h9 := jz_m1; omega)⟩)⟩ hP hS dX12_book_19
  · obtain ⟨q109, k108⟩ := h16
    have q109 := q109.symm
    subst q109
    refine lv_if_eq (tgt := 18) hx hb dX12_book_5 (by decide) (fun _ => ?_) (fun c => absurd (by decide) c)
    refine lv_iconst (v := (-1)) hx hb dX12_book_18 (by decide) ?_
    have I110 : jI107 σ := ⟨(by omega), (by omega), w11⟩
    exact hret (-1) σ τ _ _ _ _ rfl ⟨rfl, (fun _ _ => rfl), (fun _ _ => rfl), I110, hw68, hs_jBook, Or.inr (⟨trivial, (by have h9 := jz_m1; omega), (by have h9 := jz_m1; omega)⟩)⟩ hP hS dX12_book_19
set_option maxHeartbeats 4000000 in
set_option maxRecDepth 100000 in
theorem c_X12_close (l : Launch) (D : va_G) (cI cL : ClassId) (ad zz : Nat → Nat) (hJ : jD ad) (σ : Nat → Nat → Int32) (τ : Nat → Nat → Int64) (hI104 : jI104 σ) (hs_jBook : jBook σ) : jM l yX12_close cX12_close 2 (some .int) ({ frames := 0, cells := 0, slots := 0, locals := 0 }) D cI cL ad zz [.ref (ad 55)] σ τ (fun r σ' τ' => τ = τ' ∧ (∀ i : Nat, (i < 55 ∨ 55 < i) → σ' i = σ i) ∧ (∀ k : Nat, (k < 47 ∨ 47 < k) → σ' 55 k = σ 55 k) ∧ (jBook σ') ∧ True) := by
  refine jM.of hJ (by decide +kernel) (nt := .int) rfl (Nat.le_of_ble_eq_true rfl) ?_
  intro p e s m args below meth c Q ls hC hret hl hP
  obtain ⟨hx, hb, hr, hml, hown, hts, hK, -, hlocks, hZ⟩ := hC
  have hown : s.vm.findClass RX12 = some m.cls := hown
  have hS : va_S (jA ad) s.heap s.heap [] := va_S.rf
  have hA : ∀ q, jA ad q → jA ad q := fun _ h => h
  have hl : lv_has ls 2 [(0, .ref (ad 55))] := hl
  obtain ⟨i1, i2, i3, w4, w5⟩ : (1 ≤ (σ 55 10).toInt ∧ (σ 55 10).toInt ≤ 8) ∧ (1 ≤ (σ 55 12).toInt ∧ (σ 55 12).toInt ≤ 12) ∧ (0 ≤ (σ 55 13).toInt ∧ (σ 55 13).toInt ≤ 999) ∧ (∀ k : Nat, k < 8 → 0 ≤ (σ 62 k).toInt ∧ (σ 62 k).toInt ≤ 3) ∧ (∀ k : Nat, k < 8 → 0 ≤ (σ 67 k).toInt ∧ (σ 67 k).toInt ≤ 3) := id hI104
  refine lv_aload_n hx hb dX12_close_0 rfl (lv_at hl 0 rfl) ?_
  refine va_get (D := D) hx hb hts inlX12 hown hK hP 55 (jc_55 cI cL ad σ τ) rfl 47 (by decide) (hts _ kw_15_15) (fun _ h9 => h9) rfl dX12_close_1 ?_
  refine lv_istore_n (lv' := [(1, .int (σ 55 47)), (0, .ref (ad 55))]) hx hb dX12_close_4 rfl hl (by decide) rfl (fun ls hl => ?_)
  refine lv_aload_n hx hb dX12_close_5 rfl (lv_at hl 1 rfl) ?_
  refine lv_iconst (v := 0) hx hb dX12_close_6 (by decide) ?_
  refine jput (ty := .int) hx hb hts inlX12 tyX12 tyX12_ok nmX12 hown hK hP hJ hA hS (jc_55 cI cL ad σ τ) rfl (k := 47) (by decide) (Nat.le_of_ble_eq_true rfl) (jp_55_47 cI cL ad σ τ 0) (hts _ kw_15_15) (fun _ h9 => h9) rfl (by decide +kernel) rfl rfl dX12_close_7 (fun σ6 H locs eσ6 hP hS => ?_)
  refine lv_iload_n hx hb dX12_close_10 rfl (lv_at hl 0 rfl) ?_
  have z7 : (σ6 55 47).toInt = 0 := by rw [(show σ6 55 47 = 0 from (by rw [eσ6]; exact jup_s))]; exact jz_0
  have p8 : jBook σ6 := jBook.nil (by omega)
  exact hret (σ 55 47) σ6 τ _ _ _ _ rfl ⟨rfl, (fun i hi => by rw [eσ6, jup_n (by omega)]), (fun k hk => by rw [eσ6, jup_k (by omega)]), p8, trivial⟩ hP hS dX12_close_11

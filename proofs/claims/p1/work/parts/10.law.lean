/-! THE CLAIM OUT OF ONE WALK OF THE LAW'S BODY. Your part is whole_start (and what it stands on); all else here is the same for every law, but numbers. -/
def R_law : String := "ChangeBowlerLaw"
def lw_P (b : Addr) (xs : List Int32) (args : Array Value) (s : State) : Prop := args = #[.ref b] ∧ s.IntsAt b xs ∧ xs.length ≤ 6 ∧ (Jvm.Cond.and given_1 narrow_1).before args s = true
def lw_Q (_ : Array Value) (s : State) (o : Outcome) (t : State) : Prop := o = .returned (some (.int 1)) ∧ Framed s o t [] 600000 7302250
def lw_Z (below : List Frame) (a : Array Value) (s : State) : State → Prop := fun t => ∃ o, t.status = .running ∧ Ended t below o ∧ lw_Q a s o t
/-- the law's own end, with 1 on the stack, nothing written that was there before, its room as the claim has it -/
theorem lw_ret {p : Program} {l : Launch} {e : Env} {s : State} {m : MethodId} {below : List Frame} {meth : Method} {c : Code} {b : Nat} (hx : p.tables.exec = Jvm.exec) (hb : c.code = code) (hr : meth.sig.returnType = ret) (hlocks : meth.locks = false) {pc : Nat} {H : Heap} {ls : Array Slot} (hdg : decode code pc = .ok (.ireturn, 1)) : W p l e room_1 s m #[Value.ref b] below meth c H [] 600000 7302250 (lw_Z below #[Value.ref b] s) (F0 m pc ls [.int 1]) := by
  intro T hT X
  obtain ⟨fs, hret, hrun, hended, hW, hframe⟩ := X.leave (v := some (.int 1)) (hlocks := hlocks) (fun h => by rw [hr] at h; cases h)
  have hmeth' : T.vm.method? m = some meth := X.method'
  refine ⟨T.setFrames fs, ?_, .returned (some (.int 1)), hrun, hended, rfl, ⟨_, rfl⟩, hW, hframe⟩
  jvm_step X.here [X.here.top, hx, hb, hdg, hmeth', hr, ret, narrow_b1]
  (try refine ⟨rfl, ?_⟩); (try refine ⟨rfl, ?_⟩)
  first | (intro acts; rw [hret _ acts rfl rfl rfl]) | rw [hret _ _ rfl rfl rfl]
  exact Steps.refl _
/-- what holds at the law's entry: the machine, the code, the tables' words (any of lw_tbl by 'hts w (by decide +kernel)'), the script of L ints xs at the cell b, what the Statement gives of the start (any of its parts by flat_of_before) -/
def lw_At (p : Program) (s : State) (m : MethodId) (meth : Method) (c : Code) (b L : Nat) (xs : Nat → Int32) : Prop :=
  p.tables.exec = Jvm.exec ∧ c.code = code ∧ meth.sig.returnType = ret ∧ c.maxLocals = 4 ∧ s.vm.findClass R_law = some m.cls ∧ (∀ w ∈ lw_tbl, w.before #[Value.ref b] s = true) ∧ va_X b L xs s s.heap ∧ b < s.heap.size ∧ meth.locks = false ∧ (Jvm.Cond.and given_1 narrow_1).before #[Value.ref b] s = true
/-- what the cells hold at first -/
def sg0 : Nat → Nat → Int32 := fun i => [(fun k => [(0 : Int32), (0 : Int32), (0 : Int32), (0 : Int32), (0 : Int32), (0 : Int32), (0 : Int32), (0 : Int32), (0 : Int32), (0 : Int32), (0 : Int32), (0 : Int32)].getD k 0),
  (fun _ => 0),
  (fun k => [0, 0, 0, 0, (0 : Int32), (0 : Int32), (0 : Int32), (0 : Int32), (0 : Int32), (0 : Int32)].getD k 0),
  (fun _ => 0),
  (fun _ => 0),
  (fun _ => 0),
  (fun _ => 0),
  (fun _ => 0),
  (fun _ => 0),
  (fun k => [0, 0, 0, (0 : Int32), (0 : Int32), (0 : Int32)].getD k 0),
  (fun _ => 0),
  (fun _ => 0),
  (fun k => [0, 0, (0 : Int32), (0 : Int32), (0 : Int32)].getD k 0),
  (fun _ => 0),
  (fun _ => 0),
  (fun _ => 0),
  (fun k => [1, 8, 0, (0 : Int32)].getD k 0),
  (fun _ => 0),
  (fun k => [0, 0, (0 : Int32), (0 : Int32), (0 : Int32)].getD k 0),
  (fun _ => 0),
  (fun _ => 0),
  (fun _ => 0),
  (fun k => [0, 0, (0 : Int32), (0 : Int32), (0 : Int32)].getD k 0),
  (fun _ => 0),
  (fun _ => 0),
  (fun _ => 0),
  (fun k => [(0 : Int32), (0 : Int32), (0 : Int32), (0 : Int32), (0 : Int32), (0 : Int32), 1, 0].getD k 0),
  (fun _ => 0),
  (fun _ => 0),
  (fun _ => 0),
  (fun _ => 0),
  (fun k => [(0 : Int32), (0 : Int32), (0 : Int32), (0 : Int32), (0 : Int32), (0 : Int32), (0 : Int32), (0 : Int32), 0, (-1), 0, 0, 0].getD k 0),
  (fun _ => 0),
  (fun _ => 0),
  (fun _ => 0),
  (fun _ => 0),
  (fun _ => 0),
  (fun _ => 0),
  (fun k => [0, 0, (0 : Int32), (0 : Int32), (0 : Int32), (0 : Int32)].getD k 0),
  (fun _ => 0),
  (fun _ => 0),
  (fun _ => 0),
  (fun _ => 0),
  (fun k => [(0 : Int32), (0 : Int32), (0 : Int32), (0 : Int32), (0 : Int32), (0 : Int32), (0 : Int32), (0 : Int32), 0].getD k 0),
  (fun _ => 0),
  (fun _ => 0),
  (fun _ => 0),
  (fun k => [0, (0 : Int32), (0 : Int32)].getD k 0),
  (fun _ => 0),
  (fun _ => 0),
  (fun k => [(0 : Int32), (0 : Int32), (0 : Int32), (0 : Int32), (0 : Int32)].getD k 0),
  (upd (upd (upd (upd (upd (upd (fun _ => 0) 0 (-2)) 1 (-2)) 2 (-2)) 3 (-2)) 4 (-2)) 5 (-2)),
  (fun _ => 0),
  (upd (upd (upd (upd (upd (upd (fun _ => 0) 0 (-1)) 1 (-1)) 2 (-1)) 3 (-1)) 4 (-1)) 5 (-1)),
  (fun _ => 0),
  (fun k => [(0 : Int32), (0 : Int32), (0 : Int32), (0 : Int32), 0, 0, 0, (0 : Int32), (0 : Int32), 0, 1, (0 : Int32), 8, 0, (0 : Int32), 0, (0 : Int32), (0 : Int32), 0, 0, 0, 0, 0, (0 : Int32), (0 : Int32), 0, 0, 0, (0 : Int32), (0 : Int32), (-1), (-1), 0, (0 : Int32), (0 : Int32), (0 : Int32), (0 : Int32), 0, (0 : Int32), (0 : Int32), (0 : Int32), (0 : Int32), 0, (0 : Int32), (0 : Int32), 0, 0, 0, (0 : Int32), (0 : Int32), 0, (0 : Int32), (0 : Int32), (0 : Int32), (0 : Int32), 0, 0, 0, (0 : Int32), (0 : Int32), (0 : Int32), (0 : Int32)].getD k 0),
  (upd (upd (upd (upd (upd (upd (upd (upd (upd (upd (upd (upd (upd (upd (upd (upd (fun _ => 0) 0 100) 1 100) 2 100) 3 100) 4 100) 5 100) 6 100) 7 100) 8 100) 9 100) 10 100) 11 100) 12 100) 13 100) 14 100) 15 100),
  (fun _ => 0),
  (fun _ => 0),
  (fun _ => 0),
  (fun _ => 0),
  (fun _ => 0),
  (fun _ => 0),
  (fun _ => 0),
  (fun _ => 0),
  (upd (upd (fun _ => 0) 0 (-1)) 1 (-1)),
  (fun _ => 0),
  (fun _ => 0),
  (fun _ => 0),
  (fun _ => 0),
  (fun _ => 0),
  (fun _ => 0),
  (fun _ => 0),
  (fun _ => 0),
  (fun _ => 0),
  (fun _ => 0),
  (fun _ => 0),
  (fun _ => 0),
  (fun _ => 0),
  (fun _ => 0),
  (fun _ => 0),
  (fun _ => 0),
  (fun _ => 0),
  (fun _ => 0),
  (fun _ => 0),
  (fun _ => 0),
  (upd (upd (upd (upd (upd (upd (fun _ => 0) 0 (-1)) 1 (-1)) 2 (-1)) 3 (-1)) 4 (-1)) 5 (-1)),
  (fun _ => 0),
  (fun _ => 0),
  (fun _ => 0)].getD i (fun _ => 0)
def tu0 : Nat → Nat → Int64 := fun _ _ => 0
theorem jf_2_0 : sg0 2 0 = 0 := rfl
theorem jf_2_1 : sg0 2 1 = 0 := rfl
theorem jf_2_2 : sg0 2 2 = 0 := rfl
theorem jf_2_3 : sg0 2 3 = 0 := rfl
theorem jf_9_0 : sg0 9 0 = 0 := rfl
theorem jf_9_1 : sg0 9 1 = 0 := rfl
theorem jf_9_2 : sg0 9 2 = 0 := rfl
theorem jf_12_0 : sg0 12 0 = 0 := rfl
theorem jf_12_1 : sg0 12 1 = 0 := rfl
theorem jf_16_0 : sg0 16 0 = 1 := rfl
theorem jf_16_1 : sg0 16 1 = 8 := rfl
theorem jf_16_2 : sg0 16 2 = 0 := rfl
theorem jf_18_0 : sg0 18 0 = 0 := rfl
theorem jf_18_1 : sg0 18 1 = 0 := rfl
theorem jf_22_0 : sg0 22 0 = 0 := rfl
theorem jf_22_1 : sg0 22 1 = 0 := rfl
theorem jf_26_6 : sg0 26 6 = 1 := rfl
theorem jf_26_7 : sg0 26 7 = 0 := rfl
theorem jf_31_8 : sg0 31 8 = 0 := rfl
theorem jf_31_9 : sg0 31 9 = (-1) := rfl
theorem jf_31_10 : sg0 31 10 = 0 := rfl
theorem jf_31_11 : sg0 31 11 = 0 := rfl
theorem jf_31_12 : sg0 31 12 = 0 := rfl
theorem jf_38_0 : sg0 38 0 = 0 := rfl
theorem jf_38_1 : sg0 38 1 = 0 := rfl
theorem jf_43_8 : sg0 43 8 = 0 := rfl
theorem jf_47_0 : sg0 47 0 = 0 := rfl
theorem jf_55_4 : sg0 55 4 = 0 := rfl
theorem jf_55_5 : sg0 55 5 = 0 := rfl
theorem jf_55_6 : sg0 55 6 = 0 := rfl
theorem jf_55_9 : sg0 55 9 = 0 := rfl
theorem jf_55_10 : sg0 55 10 = 1 := rfl
theorem jf_55_12 : sg0 55 12 = 8 := rfl
theorem jf_55_13 : sg0 55 13 = 0 := rfl
theorem jf_55_15 : sg0 55 15 = 0 := rfl
theorem jf_55_18 : sg0 55 18 = 0 := rfl
theorem jf_55_19 : sg0 55 19 = 0 := rfl
theorem jf_55_20 : sg0 55 20 = 0 := rfl
theorem jf_55_21 : sg0 55 21 = 0 := rfl
theorem jf_55_22 : sg0 55 22 = 0 := rfl
theorem jf_55_25 : sg0 55 25 = 0 := rfl
theorem jf_55_26 : sg0 55 26 = 0 := rfl
theorem jf_55_27 : sg0 55 27 = 0 := rfl
theorem jf_55_30 : sg0 55 30 = (-1) := rfl
theorem jf_55_31 : sg0 55 31 = (-1) := rfl
theorem jf_55_32 : sg0 55 32 = 0 := rfl
theorem jf_55_37 : sg0 55 37 = 0 := rfl
theorem jf_55_42 : sg0 55 42 = 0 := rfl
theorem jf_55_45 : sg0 55 45 = 0 := rfl
theorem jf_55_46 : sg0 55 46 = 0 := rfl
theorem jf_55_47 : sg0 55 47 = 0 := rfl
theorem jf_55_50 : sg0 55 50 = 0 := rfl
theorem jf_55_55 : sg0 55 55 = 0 := rfl
theorem jf_55_56 : sg0 55 56 = 0 := rfl
theorem jf_55_57 : sg0 55 57 = 0 := rfl
theorem jfa_1 : ∀ k : Nat, sg0 1 k = 0 := fun _ => rfl
theorem jfa_3 : ∀ k : Nat, sg0 3 k = 0 := fun _ => rfl
theorem jfa_4 : ∀ k : Nat, sg0 4 k = 0 := fun _ => rfl
theorem jfa_5 : ∀ k : Nat, sg0 5 k = 0 := fun _ => rfl
theorem jfa_6 : ∀ k : Nat, sg0 6 k = 0 := fun _ => rfl
theorem jfa_7 : ∀ k : Nat, sg0 7 k = 0 := fun _ => rfl
theorem jfa_8 : ∀ k : Nat, sg0 8 k = 0 := fun _ => rfl
theorem jfa_10 : ∀ k : Nat, sg0 10 k = 0 := fun _ => rfl
theorem jfa_11 : ∀ k : Nat, sg0 11 k = 0 := fun _ => rfl
theorem jfa_13 : ∀ k : Nat, sg0 13 k = 0 := fun _ => rfl
theorem jfa_14 : ∀ k : Nat, sg0 14 k = 0 := fun _ => rfl
theorem jfa_15 : ∀ k : Nat, sg0 15 k = 0 := fun _ => rfl
theorem jfa_17 : ∀ k : Nat, sg0 17 k = 0 := fun _ => rfl
theorem jfa_19 : ∀ k : Nat, sg0 19 k = 0 := fun _ => rfl
theorem jfa_20 : ∀ k : Nat, sg0 20 k = 0 := fun _ => rfl
theorem jfa_21 : ∀ k : Nat, sg0 21 k = 0 := fun _ => rfl
theorem jfa_23 : ∀ k : Nat, sg0 23 k = 0 := fun _ => rfl
theorem jfa_24 : ∀ k : Nat, sg0 24 k = 0 := fun _ => rfl
theorem jfa_25 : ∀ k : Nat, sg0 25 k = 0 := fun _ => rfl
theorem jfa_27 : ∀ k : Nat, sg0 27 k = 0 := fun _ => rfl
theorem jfa_28 : ∀ k : Nat, sg0 28 k = 0 := fun _ => rfl
theorem jfa_29 : ∀ k : Nat, sg0 29 k = 0 := fun _ => rfl
theorem jfa_30 : ∀ k : Nat, sg0 30 k = 0 := fun _ => rfl
theorem jfa_32 : ∀ k : Nat, sg0 32 k = 0 := fun _ => rfl
theorem jfa_33 : ∀ k : Nat, sg0 33 k = 0 := fun _ => rfl
theorem jfa_34 : ∀ k : Nat, sg0 34 k = 0 := fun _ => rfl
theorem jfa_35 : ∀ k : Nat, sg0 35 k = 0 := fun _ => rfl
theorem jfa_36 : ∀ k : Nat, sg0 36 k = 0 := fun _ => rfl
theorem jfa_37 : ∀ k : Nat, sg0 37 k = 0 := fun _ => rfl
theorem jfa_39 : ∀ k : Nat, sg0 39 k = 0 := fun _ => rfl
theorem jfa_40 : ∀ k : Nat, sg0 40 k = 0 := fun _ => rfl
theorem jfa_41 : ∀ k : Nat, sg0 41 k = 0 := fun _ => rfl
theorem jfa_42 : ∀ k : Nat, sg0 42 k = 0 := fun _ => rfl
theorem jfa_44 : ∀ k : Nat, sg0 44 k = 0 := fun _ => rfl
theorem jfa_45 : ∀ k : Nat, sg0 45 k = 0 := fun _ => rfl
theorem jfa_46 : ∀ k : Nat, sg0 46 k = 0 := fun _ => rfl
theorem jfa_48 : ∀ k : Nat, sg0 48 k = 0 := fun _ => rfl
theorem jfa_49 : ∀ k : Nat, sg0 49 k = 0 := fun _ => rfl
theorem jfa_51 : ∀ k : Nat, k < 6 → sg0 51 k = (-2) := by
  intro k h1
  rcases (by omega : k = 0 ∨ k = 1 ∨ k = 2 ∨ k = 3 ∨ k = 4 ∨ k = 5) with rfl | rfl | rfl | rfl | rfl | rfl <;> rfl
theorem jfa_52 : ∀ k : Nat, sg0 52 k = 0 := fun _ => rfl
theorem jfa_53 : ∀ k : Nat, k < 6 → sg0 53 k = (-1) := by
  intro k h1
  rcases (by omega : k = 0 ∨ k = 1 ∨ k = 2 ∨ k = 3 ∨ k = 4 ∨ k = 5) with rfl | rfl | rfl | rfl | rfl | rfl <;> rfl
theorem jfa_57 : ∀ k : Nat, sg0 57 k = 0 := fun _ => rfl
theorem jfa_58 : ∀ k : Nat, sg0 58 k = 0 := fun _ => rfl
theorem jfa_59 : ∀ k : Nat, sg0 59 k = 0 := fun _ => rfl
theorem jfa_60 : ∀ k : Nat, sg0 60 k = 0 := fun _ => rfl
theorem jfa_61 : ∀ k : Nat, sg0 61 k = 0 := fun _ => rfl
theorem jfa_62 : ∀ k : Nat, sg0 62 k = 0 := fun _ => rfl
theorem jfa_63 : ∀ k : Nat, sg0 63 k = 0 := fun _ => rfl
theorem jfa_64 : ∀ k : Nat, sg0 64 k = 0 := fun _ => rfl
theorem jfa_65 : ∀ k : Nat, k < 2 → sg0 65 k = (-1) := by
  intro k h1
  rcases (by omega : k = 0 ∨ k = 1) with rfl | rfl <;> rfl
theorem jfa_66 : ∀ k : Nat, sg0 66 k = 0 := fun _ => rfl
theorem jfa_67 : ∀ k : Nat, sg0 67 k = 0 := fun _ => rfl
theorem jfa_68 : ∀ k : Nat, sg0 68 k = 0 := fun _ => rfl
theorem jfa_69 : ∀ k : Nat, sg0 69 k = 0 := fun _ => rfl
theorem jfa_70 : ∀ k : Nat, sg0 70 k = 0 := fun _ => rfl
theorem jfa_71 : ∀ k : Nat, sg0 71 k = 0 := fun _ => rfl
theorem jfa_72 : ∀ k : Nat, sg0 72 k = 0 := fun _ => rfl
theorem jfa_73 : ∀ k : Nat, sg0 73 k = 0 := fun _ => rfl
theorem jfa_74 : ∀ k : Nat, sg0 74 k = 0 := fun _ => rfl
theorem jfa_75 : ∀ k : Nat, sg0 75 k = 0 := fun _ => rfl
theorem jfa_76 : ∀ k : Nat, sg0 76 k = 0 := fun _ => rfl
theorem jfa_77 : ∀ k : Nat, sg0 77 k = 0 := fun _ => rfl
theorem jfa_78 : ∀ k : Nat, sg0 78 k = 0 := fun _ => rfl
theorem jfa_79 : ∀ k : Nat, sg0 79 k = 0 := fun _ => rfl
theorem jfa_80 : ∀ k : Nat, sg0 80 k = 0 := fun _ => rfl
theorem jfa_81 : ∀ k : Nat, sg0 81 k = 0 := fun _ => rfl
theorem jfa_82 : ∀ k : Nat, sg0 82 k = 0 := fun _ => rfl
theorem jfa_83 : ∀ k : Nat, sg0 83 k = 0 := fun _ => rfl
theorem jfa_84 : ∀ k : Nat, sg0 84 k = 0 := fun _ => rfl
theorem jfa_85 : ∀ k : Nat, sg0 85 k = 0 := fun _ => rfl
theorem jfa_86 : ∀ k : Nat, k < 6 → sg0 86 k = (-1) := by
  intro k h1
  rcases (by omega : k = 0 ∨ k = 1 ∨ k = 2 ∨ k = 3 ∨ k = 4 ∨ k = 5) with rfl | rfl | rfl | rfl | rfl | rfl <;> rfl
theorem jfa_87 : ∀ k : Nat, sg0 87 k = 0 := fun _ => rfl
theorem jfa_56 : ∀ k : Nat, 16 ≤ k → k < 68 → sg0 56 k = 0 := by
  intro k h1 h2
  show (upd (upd (upd (upd (upd (upd (upd (upd (upd (upd (upd (upd (upd (upd (upd (upd (fun _ => 0) 0 100) 1 100) 2 100) 3 100) 4 100) 5 100) 6 100) 7 100) 8 100) 9 100) 10 100) 11 100) 12 100) 13 100) 14 100) 15 100) k = 0
  simp only [upd]
  (repeat rw [if_neg (by omega)])
set_option maxHeartbeats 4000000 in
set_option maxRecDepth 100000 in
theorem law_case_0 {p : Program} {e : Env} {s : State} {m : MethodId} {below : List Frame} {meth : Method} {c : Code} (l : Launch) {b L : Nat} {xs : Nat → Int32} {D : va_G} {cI cL : ClassId} {ad : Nat → Nat} (C0 : lw_At p s m meth c b L xs) (hJ : jD ad) (hA : ∀ q, jA ad q → s.heap.size ≤ q) (hK : jK D cI cL s) (hL6 : L = 6) {H : Heap} {locs : List Loc} (hS : va_S (fun q : Nat => s.heap.size ≤ q) s.heap H locs) {ls : Array Slot} (hP : jH D cI cL ad sg0 tu0 H) (hl : lv_has ls 4 [(3, .int 0), (2, .ref (ad 55)), (1, .ref (ad 0)), (0, .ref b)]) : W p l e room_1 s m #[Value.ref b] below meth c H locs 90 348600 (lw_Z below #[Value.ref b] s) (F0 m 196 ls []) := by
  obtain ⟨hx, hb, hr, hml, hown, hts0, hX, hbl, hlocks, hgv⟩ := C0
  have hts : ∀ w ∈ wsL_law, w.before #[Value.ref b] s = true := fun w h => hts0 w (wsL_law_in w h)
  have hbA : ¬ (fun q : Nat => s.heap.size ≤ q) b := Nat.not_le.mpr hbl
  have hown : s.vm.findClass RL = some m.cls := hown
  refine lv_aload_n hx hb dL_law_196 rfl (lv_at hl 2 rfl) ?_
  refine lv_aload_n hx hb dL_law_197 rfl (lv_at hl 3 rfl) ?_
  refine lv_iload_n hx hb dL_law_198 rfl (lv_at hl 0 rfl) ?_
  refine lv_iconst (v := 1) hx hb dL_law_199 (by decide) ?_
  refine lv_iadd hx hb dL_law_200 ?_
  refine jtopr (y := 1) (by decide) ?_
  refine va_sld hx hb hX hbl hbA hS (jin jz_1 (by omega) (by omega)) dL_law_201 ?_
  refine jtopr (y := xs 1) rfl ?_
  refine lv_aload_n hx hb dL_law_202 rfl (lv_at hl 3 rfl) ?_
  refine lv_iload_n hx hb dL_law_203 rfl (lv_at hl 0 rfl) ?_
  refine lv_iconst (v := 2) hx hb dL_law_204 (by decide) ?_
  refine lv_iadd hx hb dL_law_205 ?_
  refine jtopr (y := 2) (by decide) ?_
  refine va_sld hx hb hX hbl hbA hS (jin jz_2 (by omega) (by omega)) dL_law_206 ?_
  refine jtopr (y := xs 2) rfl ?_
  refine lv_aload_n hx hb dL_law_207 rfl (lv_at hl 3 rfl) ?_
  refine lv_iload_n hx hb dL_law_208 rfl (lv_at hl 0 rfl) ?_
  refine lv_iconst (v := 3) hx hb dL_law_209 (by decide) ?_
  refine lv_iadd hx hb dL_law_210 ?_
  refine jtopr (y := 3) (by decide) ?_
  refine va_sld hx hb hX hbl hbA hS (jin jz_3 (by omega) (by omega)) dL_law_211 ?_
  refine jtopr (y := xs 3) rfl ?_
  refine jcallV (As := [.int (xs 1), .int (xs 2), .int (xs 3)]) (rest := []) ⟨hx, hb, hml, hown, hts⟩ hK hP hA hS (c_X11_bowler l D cI cL ad hJ sg0 tu0 (xs 1) ((xs 1).toInt) rfl (xs 2) ((xs 2).toInt) rfl (xs 3) ((xs 3).toInt) rfl jf_2_0) cw_RL_13 (jc_0 cI cL ad sg0 tu0) rfl ⟨Nat.le_of_ble_eq_true rfl, Nat.le_of_ble_eq_true rfl⟩ rfl rfl rfl hl.1 rfl (Nat.le_of_ble_eq_true rfl) dL_law_212 ⟨Nat.le_of_ble_eq_true rfl, Nat.le_of_ble_eq_true rfl⟩ (fun r2 σ1 τ1 H locs h1 hP hS => ?_)
  obtain ⟨f3, qr2⟩ := h1
  refine lv_aload_n hx hb dL_law_215 rfl (lv_at hl 1 rfl) ?_
  refine lv_aload_n hx hb dL_law_216 rfl (lv_at hl 3 rfl) ?_
  refine lv_iload_n hx hb dL_law_217 rfl (lv_at hl 0 rfl) ?_
  refine lv_iconst (v := 1) hx hb dL_law_218 (by decide) ?_
  refine lv_iadd hx hb dL_law_219 ?_
  refine jtopr (y := 1) (by decide) ?_
  refine va_sld hx hb hX hbl hbA hS (jin jz_1 (by omega) (by omega)) dL_law_220 ?_
  refine jtopr (y := xs 1) rfl ?_
  refine lv_aload_n hx hb dL_law_221 rfl (lv_at hl 3 rfl) ?_
  refine lv_iload_n hx hb dL_law_222 rfl (lv_at hl 0 rfl) ?_
  refine lv_iconst (v := 2) hx hb dL_law_223 (by decide) ?_
  refine lv_iadd hx hb dL_law_224 ?_
  refine jtopr (y := 2) (by decide) ?_
  refine va_sld hx hb hX hbl hbA hS (jin jz_2 (by omega) (by omega)) dL_law_225 ?_
  refine jtopr (y := xs 2) rfl ?_
  refine lv_aload_n hx hb dL_law_226 rfl (lv_at hl 3 rfl) ?_
  refine lv_iload_n hx hb dL_law_227 rfl (lv_at hl 0 rfl) ?_
  refine lv_iconst (v := 3) hx hb dL_law_228 (by decide) ?_
  refine lv_iadd hx hb dL_law_229 ?_
  refine jtopr (y := 3) (by decide) ?_
  refine va_sld hx hb hX hbl hbA hS (jin jz_3 (by omega) (by omega)) dL_law_230 ?_
  refine jtopr (y := xs 3) rfl ?_
  have m4 : σ1 55 6 = 0 := (by rw [f3 55 (by omega)]; exact jf_55_6)
  refine jcallV (As := [.int (xs 1), .int (xs 2), .int (xs 3)]) (rest := [.int r2]) ⟨hx, hb, hml, hown, hts⟩ hK hP hA hS (c_X12_bowler l D cI cL ad hJ σ1 τ1 (xs 1) ((xs 1).toInt) rfl (xs 2) ((xs 2).toInt) rfl (xs 3) ((xs 3).toInt) rfl m4) cw_RL_17 (jc_55 cI cL ad σ1 τ1) rfl ⟨Nat.le_of_ble_eq_true rfl, Nat.le_of_ble_eq_true rfl⟩ rfl rfl rfl hl.1 rfl (Nat.le_of_ble_eq_true rfl) dL_law_231 ⟨Nat.le_of_ble_eq_true rfl, Nat.le_of_ble_eq_true rfl⟩ (fun r6 σ5 τ5 H locs h5 hP hS => ?_)
  obtain ⟨-, qr6⟩ := h5
  refine lv_icmp_eq (tgt := 1358) hx hb dL_law_234 (by decide) (fun _ => ?_) (fun c => absurd (qr2.trans qr6.symm) c)
  refine lv_iinc (v := 6) (lv' := [(3, .int 6), (2, .ref (ad 55)), (1, .ref (ad 0)), (0, .ref b)]) hx hb dL_law_1358 hl (k := 0) rfl (by decide) (by decide) rfl (fun ls hl => ?_)
  refine lv_goto (tgt := 18) hx hb dL_law_1361 (by decide) ?_
  refine lv_iload_n hx hb dL_law_18 rfl (lv_at hl 0 rfl) ?_
  refine lv_aload_n hx hb dL_law_19 rfl (lv_at hl 3 rfl) ?_
  refine va_slen hx hb hX hbl hbA hS dL_law_20 ?_
  refine jtopr (y := 6) (by rw [hL6]; rfl) ?_
  refine lv_bipush (v := 6) hx hb dL_law_21 (by decide) ?_
  refine lv_isub hx hb dL_law_23 ?_
  refine jtopr (y := 0) (by decide) ?_
  refine lv_icmp_gt (tgt := 1364) hx hb dL_law_24 (by decide) (fun _ => ?_) (fun c => absurd (by decide) c)
  refine lv_iconst (v := 1) hx hb dL_law_1364 (by decide) ?_
  refine va_forget (fun q hq => hS.2.2 q hq) ?_
  refine W.widen (k := 600000) (n := 7302250) (Nat.le_of_ble_eq_true rfl) (Nat.le_of_ble_eq_true rfl) ?_
  exact lw_ret hx hb hr hlocks dL_law_1365
set_option maxHeartbeats 4000000 in
set_option maxRecDepth 100000 in
theorem law_case_1 {p : Program} {e : Env} {s : State} {m : MethodId} {below : List Frame} {meth : Method} {c : Code} (l : Launch) {b L : Nat} {xs : Nat → Int32} {D : va_G} {cI cL : ClassId} {ad : Nat → Nat} (C0 : lw_At p s m meth c b L xs) (hJ : jD ad) (hA : ∀ q, jA ad q → s.heap.size ≤ q) (hK : jK D cI cL s) (hL6 : L = 6) {H : Heap} {locs : List Loc} (hS : va_S (fun q : Nat => s.heap.size ≤ q) s.heap H locs) {ls : Array Slot} (hP : jH D cI cL ad sg0 tu0 H) (hl : lv_has ls 4 [(3, .int 0), (2, .ref (ad 55)), (1, .ref (ad 0)), (0, .ref b)]) : W p l e room_1 s m #[Value.ref b] below meth c H locs 90 348600 (lw_Z below #[Value.ref b] s) (F0 m 239 ls []) := by
  obtain ⟨hx, hb, hr, hml, hown, hts0, hX, hbl, hlocks, hgv⟩ := C0
  have hts : ∀ w ∈ wsL_law, w.before #[Value.ref b] s = true := fun w h => hts0 w (wsL_law_in w h)
  have hbA : ¬ (fun q : Nat => s.heap.size ≤ q) b := Nat.not_le.mpr hbl
  have hown : s.vm.findClass RL = some m.cls := hown
  refine lv_aload_n hx hb dL_law_239 rfl (lv_at hl 2 rfl) ?_
  refine lv_aload_n hx hb dL_law_240 rfl (lv_at hl 3 rfl) ?_
  refine lv_iload_n hx hb dL_law_241 rfl (lv_at hl 0 rfl) ?_
  refine lv_iconst (v := 1) hx hb dL_law_242 (by decide) ?_
  refine lv_iadd hx hb dL_law_243 ?_
  refine jtopr (y := 1) (by decide) ?_
  refine va_sld hx hb hX hbl hbA hS (jin jz_1 (by omega) (by omega)) dL_law_244 ?_
  refine jtopr (y := xs 1) rfl ?_
  refine lv_aload_n hx hb dL_law_245 rfl (lv_at hl 3 rfl) ?_
  refine lv_iload_n hx hb dL_law_246 rfl (lv_at hl 0 rfl) ?_
  refine lv_iconst (v := 2) hx hb dL_law_247 (by decide) ?_
  refine lv_iadd hx hb dL_law_248 ?_
  refine jtopr (y := 2) (by decide) ?_
  refine va_sld hx hb hX hbl hbA hS (jin jz_2 (by omega) (by omega)) dL_law_249 ?_
  refine jtopr (y := xs 2) rfl ?_
  refine lv_aload_n hx hb dL_law_250 rfl (lv_at hl 3 rfl) ?_
  refine lv_iload_n hx hb dL_law_251 rfl (lv_at hl 0 rfl) ?_
  refine lv_iconst (v := 3) hx hb dL_law_252 (by decide) ?_
  refine lv_iadd hx hb dL_law_253 ?_
  refine jtopr (y := 3) (by decide) ?_
  refine va_sld hx hb hX hbl hbA hS (jin jz_3 (by omega) (by omega)) dL_law_254 ?_
  refine jtopr (y := xs 3) rfl ?_
  refine jcallV (As := [.int (xs 1), .int (xs 2), .int (xs 3)]) (rest := []) ⟨hx, hb, hml, hown, hts⟩ hK hP hA hS (c_X11_edge l D cI cL ad hJ sg0 tu0 (xs 1) ((xs 1).toInt) rfl (xs 2) ((xs 2).toInt) rfl (xs 3) ((xs 3).toInt) rfl jf_2_0) cw_RL_18 (jc_0 cI cL ad sg0 tu0) rfl ⟨Nat.le_of_ble_eq_true rfl, Nat.le_of_ble_eq_true rfl⟩ rfl rfl rfl hl.1 rfl (Nat.le_of_ble_eq_true rfl) dL_law_255 ⟨Nat.le_of_ble_eq_true rfl, Nat.le_of_ble_eq_true rfl⟩ (fun r2 σ1 τ1 H locs h1 hP hS => ?_)
  obtain ⟨f3, qr2⟩ := h1
  refine lv_aload_n hx hb dL_law_258 rfl (lv_at hl 1 rfl) ?_
  refine lv_aload_n hx hb dL_law_259 rfl (lv_at hl 3 rfl) ?_
  refine lv_iload_n hx hb dL_law_260 rfl (lv_at hl 0 rfl) ?_
  refine lv_iconst (v := 1) hx hb dL_law_261 (by decide) ?_
  refine lv_iadd hx hb dL_law_262 ?_
  refine jtopr (y := 1) (by decide) ?_
  refine va_sld hx hb hX hbl hbA hS (jin jz_1 (by omega) (by omega)) dL_law_263 ?_
  refine jtopr (y := xs 1) rfl ?_
  refine lv_aload_n hx hb dL_law_264 rfl (lv_at hl 3 rfl) ?_
  refine lv_iload_n hx hb dL_law_265 rfl (lv_at hl 0 rfl) ?_
  refine lv_iconst (v := 2) hx hb dL_law_266 (by decide) ?_
  refine lv_iadd hx hb dL_law_267 ?_
  refine jtopr (y := 2) (by decide) ?_
  refine va_sld hx hb hX hbl hbA hS (jin jz_2 (by omega) (by omega)) dL_law_268 ?_
  refine jtopr (y := xs 2) rfl ?_
  refine lv_aload_n hx hb dL_law_269 rfl (lv_at hl 3 rfl) ?_
  refine lv_iload_n hx hb dL_law_270 rfl (lv_at hl 0 rfl) ?_
  refine lv_iconst (v := 3) hx hb dL_law_271 (by decide) ?_
  refine lv_iadd hx hb dL_law_272 ?_
  refine jtopr (y := 3) (by decide) ?_
  refine va_sld hx hb hX hbl hbA hS (jin jz_3 (by omega) (by omega)) dL_law_273 ?_
  refine jtopr (y := xs 3) rfl ?_
  have m4 : σ1 55 6 = 0 := (by rw [f3 55 (by omega)]; exact jf_55_6)
  refine jcallV (As := [.int (xs 1), .int (xs 2), .int (xs 3)]) (rest := [.int r2]) ⟨hx, hb, hml, hown, hts⟩ hK hP hA hS (c_X12_edge l D cI cL ad hJ σ1 τ1 (xs 1) ((xs 1).toInt) rfl (xs 2) ((xs 2).toInt) rfl (xs 3) ((xs 3).toInt) rfl m4) cw_RL_21 (jc_55 cI cL ad σ1 τ1) rfl ⟨Nat.le_of_ble_eq_true rfl, Nat.le_of_ble_eq_true rfl⟩ rfl rfl rfl hl.1 rfl (Nat.le_of_ble_eq_true rfl) dL_law_274 ⟨Nat.le_of_ble_eq_true rfl, Nat.le_of_ble_eq_true rfl⟩ (fun r6 σ5 τ5 H locs h5 hP hS => ?_)
  obtain ⟨-, qr6⟩ := h5
  refine lv_icmp_eq (tgt := 1358) hx hb dL_law_277 (by decide) (fun _ => ?_) (fun c => absurd (qr2.trans qr6.symm) c)
  refine lv_iinc (v := 6) (lv' := [(3, .int 6), (2, .ref (ad 55)), (1, .ref (ad 0)), (0, .ref b)]) hx hb dL_law_1358 hl (k := 0) rfl (by decide) (by decide) rfl (fun ls hl => ?_)
  refine lv_goto (tgt := 18) hx hb dL_law_1361 (by decide) ?_
  refine lv_iload_n hx hb dL_law_18 rfl (lv_at hl 0 rfl) ?_
  refine lv_aload_n hx hb dL_law_19 rfl (lv_at hl 3 rfl) ?_
  refine va_slen hx hb hX hbl hbA hS dL_law_20 ?_
  refine jtopr (y := 6) (by rw [hL6]; rfl) ?_
  refine lv_bipush (v := 6) hx hb dL_law_21 (by decide) ?_
  refine lv_isub hx hb dL_law_23 ?_
  refine jtopr (y := 0) (by decide) ?_
  refine lv_icmp_gt (tgt := 1364) hx hb dL_law_24 (by decide) (fun _ => ?_) (fun c => absurd (by decide) c)
  refine lv_iconst (v := 1) hx hb dL_law_1364 (by decide) ?_
  refine va_forget (fun q hq => hS.2.2 q hq) ?_
  refine W.widen (k := 600000) (n := 7302250) (Nat.le_of_ble_eq_true rfl) (Nat.le_of_ble_eq_true rfl) ?_
  exact lw_ret hx hb hr hlocks dL_law_1365
set_option maxHeartbeats 4000000 in
set_option maxRecDepth 100000 in
theorem law_case_2 {p : Program} {e : Env} {s : State} {m : MethodId} {below : List Frame} {meth : Method} {c : Code} (l : Launch) {b L : Nat} {xs : Nat → Int32} {D : va_G} {cI cL : ClassId} {ad : Nat → Nat} (C0 : lw_At p s m meth c b L xs) (hJ : jD ad) (hA : ∀ q, jA ad q → s.heap.size ≤ q) (hK : jK D cI cL s) (hL6 : L = 6) {H : Heap} {locs : List Loc} (hS : va_S (fun q : Nat => s.heap.size ≤ q) s.heap H locs) {ls : Array Slot} (hP : jH D cI cL ad sg0 tu0 H) (hl : lv_has ls 4 [(3, .int 0), (2, .ref (ad 55)), (1, .ref (ad 0)), (0, .ref b)]) : W p l e room_1 s m #[Value.ref b] below meth c H locs 90 348600 (lw_Z below #[Value.ref b] s) (F0 m 282 ls []) := by
  obtain ⟨hx, hb, hr, hml, hown, hts0, hX, hbl, hlocks, hgv⟩ := C0
  have hts : ∀ w ∈ wsL_law, w.before #[Value.ref b] s = true := fun w h => hts0 w (wsL_law_in w h)
  have hbA : ¬ (fun q : Nat => s.heap.size ≤ q) b := Nat.not_le.mpr hbl
  have hown : s.vm.findClass RL = some m.cls := hown
  refine lv_aload_n hx hb dL_law_282 rfl (lv_at hl 2 rfl) ?_
  refine lv_aload_n hx hb dL_law_283 rfl (lv_at hl 3 rfl) ?_
  refine lv_iload_n hx hb dL_law_284 rfl (lv_at hl 0 rfl) ?_
  refine lv_iconst (v := 1) hx hb dL_law_285 (by decide) ?_
  refine lv_iadd hx hb dL_law_286 ?_
  refine jtopr (y := 1) (by decide) ?_
  refine va_sld hx hb hX hbl hbA hS (jin jz_1 (by omega) (by omega)) dL_law_287 ?_
  refine jtopr (y := xs 1) rfl ?_
  refine lv_aload_n hx hb dL_law_288 rfl (lv_at hl 3 rfl) ?_
  refine lv_iload_n hx hb dL_law_289 rfl (lv_at hl 0 rfl) ?_
  refine lv_iconst (v := 2) hx hb dL_law_290 (by decide) ?_
  refine lv_iadd hx hb dL_law_291 ?_
  refine jtopr (y := 2) (by decide) ?_
  refine va_sld hx hb hX hbl hbA hS (jin jz_2 (by omega) (by omega)) dL_law_292 ?_
  refine jtopr (y := xs 2) rfl ?_
  refine lv_aload_n hx hb dL_law_293 rfl (lv_at hl 3 rfl) ?_
  refine lv_iload_n hx hb dL_law_294 rfl (lv_at hl 0 rfl) ?_
  refine lv_iconst (v := 3) hx hb dL_law_295 (by decide) ?_
  refine lv_iadd hx hb dL_law_296 ?_
  refine jtopr (y := 3) (by decide) ?_
  refine va_sld hx hb hX hbl hbA hS (jin jz_3 (by omega) (by omega)) dL_law_297 ?_
  refine jtopr (y := xs 3) rfl ?_
  refine jcallV (As := [.int (xs 1), .int (xs 2), .int (xs 3)]) (rest := []) ⟨hx, hb, hml, hown, hts⟩ hK hP hA hS (c_X11_field l D cI cL ad hJ sg0 tu0 (xs 1) ((xs 1).toInt) rfl (xs 2) ((xs 2).toInt) rfl (xs 3) ((xs 3).toInt) rfl jf_2_2 jfa_3) cw_RL_22 (jc_0 cI cL ad sg0 tu0) rfl ⟨Nat.le_of_ble_eq_true rfl, Nat.le_of_ble_eq_true rfl⟩ rfl rfl rfl hl.1 rfl (Nat.le_of_ble_eq_true rfl) dL_law_298 ⟨Nat.le_of_ble_eq_true rfl, Nat.le_of_ble_eq_true rfl⟩ (fun r2 σ1 τ1 H locs h1 hP hS => ?_)
  obtain ⟨f3, qr2⟩ := h1
  refine lv_aload_n hx hb dL_law_301 rfl (lv_at hl 1 rfl) ?_
  refine lv_aload_n hx hb dL_law_302 rfl (lv_at hl 3 rfl) ?_
  refine lv_iload_n hx hb dL_law_303 rfl (lv_at hl 0 rfl) ?_
  refine lv_iconst (v := 1) hx hb dL_law_304 (by decide) ?_
  refine lv_iadd hx hb dL_law_305 ?_
  refine jtopr (y := 1) (by decide) ?_
  refine va_sld hx hb hX hbl hbA hS (jin jz_1 (by omega) (by omega)) dL_law_306 ?_
  refine jtopr (y := xs 1) rfl ?_
  refine lv_aload_n hx hb dL_law_307 rfl (lv_at hl 3 rfl) ?_
  refine lv_iload_n hx hb dL_law_308 rfl (lv_at hl 0 rfl) ?_
  refine lv_iconst (v := 2) hx hb dL_law_309 (by decide) ?_
  refine lv_iadd hx hb dL_law_310 ?_
  refine jtopr (y := 2) (by decide) ?_
  refine va_sld hx hb hX hbl hbA hS (jin jz_2 (by omega) (by omega)) dL_law_311 ?_
  refine jtopr (y := xs 2) rfl ?_
  refine lv_aload_n hx hb dL_law_312 rfl (lv_at hl 3 rfl) ?_
  refine lv_iload_n hx hb dL_law_313 rfl (lv_at hl 0 rfl) ?_
  refine lv_iconst (v := 3) hx hb dL_law_314 (by decide) ?_
  refine lv_iadd hx hb dL_law_315 ?_
  refine jtopr (y := 3) (by decide) ?_
  refine va_sld hx hb hX hbl hbA hS (jin jz_3 (by omega) (by omega)) dL_law_316 ?_
  refine jtopr (y := xs 3) rfl ?_
  have m4 : σ1 55 5 = 0 := (by rw [f3 55 (by omega)]; exact jf_55_5)
  have m5 : ∀ k : Nat, 16 ≤ k → k < 68 → σ1 56 k = 0 := (by rw [f3 56 (by omega)]; exact jfa_56)
  refine jcallV (As := [.int (xs 1), .int (xs 2), .int (xs 3)]) (rest := [.int r2]) ⟨hx, hb, hml, hown, hts⟩ hK hP hA hS (c_X12_field l D cI cL ad hJ σ1 τ1 (xs 1) ((xs 1).toInt) rfl (xs 2) ((xs 2).toInt) rfl (xs 3) ((xs 3).toInt) rfl m4 m5) cw_RL_25 (jc_55 cI cL ad σ1 τ1) rfl ⟨Nat.le_of_ble_eq_true rfl, Nat.le_of_ble_eq_true rfl⟩ rfl rfl rfl hl.1 rfl (Nat.le_of_ble_eq_true rfl) dL_law_317 ⟨Nat.le_of_ble_eq_true rfl, Nat.le_of_ble_eq_true rfl⟩ (fun r7 σ6 τ6 H locs h6 hP hS => ?_)
  obtain ⟨-, qr7⟩ := h6
  refine lv_icmp_eq (tgt := 1358) hx hb dL_law_320 (by decide) (fun _ => ?_) (fun c => absurd (qr2.trans qr7.symm) c)
  refine lv_iinc (v := 6) (lv' := [(3, .int 6), (2, .ref (ad 55)), (1, .ref (ad 0)), (0, .ref b)]) hx hb dL_law_1358 hl (k := 0) rfl (by decide) (by decide) rfl (fun ls hl => ?_)
  refine lv_goto (tgt := 18) hx hb dL_law_1361 (by decide) ?_
  refine lv_iload_n hx hb dL_law_18 rfl (lv_at hl 0 rfl) ?_
  refine lv_aload_n hx hb dL_law_19 rfl (lv_at hl 3 rfl) ?_
  refine va_slen hx hb hX hbl hbA hS dL_law_20 ?_
  refine jtopr (y := 6) (by rw [hL6]; rfl) ?_
  refine lv_bipush (v := 6) hx hb dL_law_21 (by decide) ?_
  refine lv_isub hx hb dL_law_23 ?_
  refine jtopr (y := 0) (by decide) ?_
  refine lv_icmp_gt (tgt := 1364) hx hb dL_law_24 (by decide) (fun _ => ?_) (fun c => absurd (by decide) c)
  refine lv_iconst (v := 1) hx hb dL_law_1364 (by decide) ?_
  refine va_forget (fun q hq => hS.2.2 q hq) ?_
  refine W.widen (k := 600000) (n := 7302250) (Nat.le_of_ble_eq_true rfl) (Nat.le_of_ble_eq_true rfl) ?_
  exact lw_ret hx hb hr hlocks dL_law_1365
set_option maxHeartbeats 4000000 in
set_option maxRecDepth 100000 in
theorem law_case_3 {p : Program} {e : Env} {s : State} {m : MethodId} {below : List Frame} {meth : Method} {c : Code} (l : Launch) {b L : Nat} {xs : Nat → Int32} {D : va_G} {cI cL : ClassId} {ad : Nat → Nat} (C0 : lw_At p s m meth c b L xs) (hJ : jD ad) (hA : ∀ q, jA ad q → s.heap.size ≤ q) (hK : jK D cI cL s) (hL6 : L = 6) {H : Heap} {locs : List Loc} (hS : va_S (fun q : Nat => s.heap.size ≤ q) s.heap H locs) {ls : Array Slot} (hP : jH D cI cL ad sg0 tu0 H) (hl : lv_has ls 4 [(3, .int 0), (2, .ref (ad 55)), (1, .ref (ad 0)), (0, .ref b)]) : W p l e room_1 s m #[Value.ref b] below meth c H locs 90 348600 (lw_Z below #[Value.ref b] s) (F0 m 325 ls []) := by
  obtain ⟨hx, hb, hr, hml, hown, hts0, hX, hbl, hlocks, hgv⟩ := C0
  have hts : ∀ w ∈ wsL_law, w.before #[Value.ref b] s = true := fun w h => hts0 w (wsL_law_in w h)
  have hbA : ¬ (fun q : Nat => s.heap.size ≤ q) b := Nat.not_le.mpr hbl
  have hown : s.vm.findClass RL = some m.cls := hown
  refine lv_aload_n hx hb dL_law_325 rfl (lv_at hl 2 rfl) ?_
  refine lv_aload_n hx hb dL_law_326 rfl (lv_at hl 3 rfl) ?_
  refine lv_iload_n hx hb dL_law_327 rfl (lv_at hl 0 rfl) ?_
  refine lv_iconst (v := 1) hx hb dL_law_328 (by decide) ?_
  refine lv_iadd hx hb dL_law_329 ?_
  refine jtopr (y := 1) (by decide) ?_
  refine va_sld hx hb hX hbl hbA hS (jin jz_1 (by omega) (by omega)) dL_law_330 ?_
  refine jtopr (y := xs 1) rfl ?_
  refine jcallV (As := [.int (xs 1)]) (rest := []) ⟨hx, hb, hml, hown, hts⟩ hK hP hA hS (c_X11_set l D cI cL ad hJ sg0 tu0 (xs 1) ((xs 1).toInt) rfl jf_2_1) cw_RL_26 (jc_0 cI cL ad sg0 tu0) rfl ⟨Nat.le_of_ble_eq_true rfl, Nat.le_of_ble_eq_true rfl⟩ rfl rfl rfl hl.1 rfl (Nat.le_of_ble_eq_true rfl) dL_law_331 ⟨Nat.le_of_ble_eq_true rfl, Nat.le_of_ble_eq_true rfl⟩ (fun r2 σ1 τ1 H locs h1 hP hS => ?_)
  obtain ⟨f3, qr2⟩ := h1
  refine lv_aload_n hx hb dL_law_334 rfl (lv_at hl 1 rfl) ?_
  refine lv_aload_n hx hb dL_law_335 rfl (lv_at hl 3 rfl) ?_
  refine lv_iload_n hx hb dL_law_336 rfl (lv_at hl 0 rfl) ?_
  refine lv_iconst (v := 1) hx hb dL_law_337 (by decide) ?_
  refine lv_iadd hx hb dL_law_338 ?_
  refine jtopr (y := 1) (by decide) ?_
  refine va_sld hx hb hX hbl hbA hS (jin jz_1 (by omega) (by omega)) dL_law_339 ?_
  refine jtopr (y := xs 1) rfl ?_
  have m4 : σ1 55 9 = 0 := (by rw [f3 55 (by omega)]; exact jf_55_9)
  refine jcallV (As := [.int (xs 1)]) (rest := [.int r2]) ⟨hx, hb, hml, hown, hts⟩ hK hP hA hS (c_X12_set l D cI cL ad hJ σ1 τ1 (xs 1) ((xs 1).toInt) rfl m4) cw_RL_30 (jc_55 cI cL ad σ1 τ1) rfl ⟨Nat.le_of_ble_eq_true rfl, Nat.le_of_ble_eq_true rfl⟩ rfl rfl rfl hl.1 rfl (Nat.le_of_ble_eq_true rfl) dL_law_340 ⟨Nat.le_of_ble_eq_true rfl, Nat.le_of_ble_eq_true rfl⟩ (fun r6 σ5 τ5 H locs h5 hP hS => ?_)
  obtain ⟨-, qr6⟩ := h5
  refine lv_icmp_eq (tgt := 1358) hx hb dL_law_343 (by decide) (fun _ => ?_) (fun c => absurd (qr2.trans qr6.symm) c)
  refine lv_iinc (v := 6) (lv' := [(3, .int 6), (2, .ref (ad 55)), (1, .ref (ad 0)), (0, .ref b)]) hx hb dL_law_1358 hl (k := 0) rfl (by decide) (by decide) rfl (fun ls hl => ?_)
  refine lv_goto (tgt := 18) hx hb dL_law_1361 (by decide) ?_
  refine lv_iload_n hx hb dL_law_18 rfl (lv_at hl 0 rfl) ?_
  refine lv_aload_n hx hb dL_law_19 rfl (lv_at hl 3 rfl) ?_
  refine va_slen hx hb hX hbl hbA hS dL_law_20 ?_
  refine jtopr (y := 6) (by rw [hL6]; rfl) ?_
  refine lv_bipush (v := 6) hx hb dL_law_21 (by decide) ?_
  refine lv_isub hx hb dL_law_23 ?_
  refine jtopr (y := 0) (by decide) ?_
  refine lv_icmp_gt (tgt := 1364) hx hb dL_law_24 (by decide) (fun _ => ?_) (fun c => absurd (by decide) c)
  refine lv_iconst (v := 1) hx hb dL_law_1364 (by decide) ?_
  refine va_forget (fun q hq => hS.2.2 q hq) ?_
  refine W.widen (k := 600000) (n := 7302250) (Nat.le_of_ble_eq_true rfl) (Nat.le_of_ble_eq_true rfl) ?_
  exact lw_ret hx hb hr hlocks dL_law_1365
set_option maxHeartbeats 4000000 in
set_option maxRecDepth 100000 in
theorem law_case_4 {p : Program} {e : Env} {s : State} {m : MethodId} {below : List Frame} {meth : Method} {c : Code} (l : Launch) {b L : Nat} {xs : Nat → Int32} {D : va_G} {cI cL : ClassId} {ad : Nat → Nat} (C0 : lw_At p s m meth c b L xs) (hJ : jD ad) (hA : ∀ q, jA ad q → s.heap.size ≤ q) (hK : jK D cI cL s) (hL6 : L = 6) {H : Heap} {locs : List Loc} (hS : va_S (fun q : Nat => s.heap.size ≤ q) s.heap H locs) {ls : Array Slot} (hP : jH D cI cL ad sg0 tu0 H) (hl : lv_has ls 4 [(3, .int 0), (2, .ref (ad 55)), (1, .ref (ad 0)), (0, .ref b)]) : W p l e room_1 s m #[Value.ref b] below meth c H locs 90 348600 (lw_Z below #[Value.ref b] s) (F0 m 348 ls []) := by
  obtain ⟨hx, hb, hr, hml, hown, hts0, hX, hbl, hlocks, hgv⟩ := C0
  have hts : ∀ w ∈ wsL_law, w.before #[Value.ref b] s = true := fun w h => hts0 w (wsL_law_in w h)
  have hbA : ¬ (fun q : Nat => s.heap.size ≤ q) b := Nat.not_le.mpr hbl
  have hown : s.vm.findClass RL = some m.cls := hown
  refine lv_aload_n hx hb dL_law_348 rfl (lv_at hl 2 rfl) ?_
  refine lv_aload_n hx hb dL_law_349 rfl (lv_at hl 3 rfl) ?_
  refine lv_iload_n hx hb dL_law_350 rfl (lv_at hl 0 rfl) ?_
  refine lv_iconst (v := 1) hx hb dL_law_351 (by decide) ?_
  refine lv_iadd hx hb dL_law_352 ?_
  refine jtopr (y := 1) (by decide) ?_
  refine va_sld hx hb hX hbl hbA hS (jin jz_1 (by omega) (by omega)) dL_law_353 ?_
  refine jtopr (y := xs 1) rfl ?_
  refine lv_aload_n hx hb dL_law_354 rfl (lv_at hl 3 rfl) ?_
  refine lv_iload_n hx hb dL_law_355 rfl (lv_at hl 0 rfl) ?_
  refine lv_iconst (v := 2) hx hb dL_law_356 (by decide) ?_
  refine lv_iadd hx hb dL_law_357 ?_
  refine jtopr (y := 2) (by decide) ?_
  refine va_sld hx hb hX hbl hbA hS (jin jz_2 (by omega) (by omega)) dL_law_358 ?_
  refine jtopr (y := xs 2) rfl ?_
  refine jcallV (As := [.int (xs 1), .int (xs 2)]) (rest := []) ⟨hx, hb, hml, hown, hts⟩ hK hP hA hS (c_X11_feed l D cI cL ad hJ sg0 tu0 (xs 1) ((xs 1).toInt) rfl (xs 2) ((xs 2).toInt) rfl jf_9_0) cw_RL_31 (jc_0 cI cL ad sg0 tu0) rfl ⟨Nat.le_of_ble_eq_true rfl, Nat.le_of_ble_eq_true rfl⟩ rfl rfl rfl hl.1 rfl (Nat.le_of_ble_eq_true rfl) dL_law_359 ⟨Nat.le_of_ble_eq_true rfl, Nat.le_of_ble_eq_true rfl⟩ (fun r2 σ1 τ1 H locs h1 hP hS => ?_)
  obtain ⟨f3, qr2⟩ := h1
  refine lv_aload_n hx hb dL_law_362 rfl (lv_at hl 1 rfl) ?_
  refine lv_aload_n hx hb dL_law_363 rfl (lv_at hl 3 rfl) ?_
  refine lv_iload_n hx hb dL_law_364 rfl (lv_at hl 0 rfl) ?_
  refine lv_iconst (v := 1) hx hb dL_law_365 (by decide) ?_
  refine lv_iadd hx hb dL_law_366 ?_
  refine jtopr (y := 1) (by decide) ?_
  refine va_sld hx hb hX hbl hbA hS (jin jz_1 (by omega) (by omega)) dL_law_367 ?_
  refine jtopr (y := xs 1) rfl ?_
  refine lv_aload_n hx hb dL_law_368 rfl (lv_at hl 3 rfl) ?_
  refine lv_iload_n hx hb dL_law_369 rfl (lv_at hl 0 rfl) ?_
  refine lv_iconst (v := 2) hx hb dL_law_370 (by decide) ?_
  refine lv_iadd hx hb dL_law_371 ?_
  refine jtopr (y := 2) (by decide) ?_
  refine va_sld hx hb hX hbl hbA hS (jin jz_2 (by omega) (by omega)) dL_law_372 ?_
  refine jtopr (y := xs 2) rfl ?_
  have m4 : σ1 55 15 = 0 := (by rw [f3 55 (by omega)]; exact jf_55_15)
  refine jcallV (As := [.int (xs 1), .int (xs 2)]) (rest := [.int r2]) ⟨hx, hb, hml, hown, hts⟩ hK hP hA hS (c_X12_feed l D cI cL ad hJ σ1 τ1 (xs 1) ((xs 1).toInt) rfl (xs 2) ((xs 2).toInt) rfl m4) cw_RL_35 (jc_55 cI cL ad σ1 τ1) rfl ⟨Nat.le_of_ble_eq_true rfl, Nat.le_of_ble_eq_true rfl⟩ rfl rfl rfl hl.1 rfl (Nat.le_of_ble_eq_true rfl) dL_law_373 ⟨Nat.le_of_ble_eq_true rfl, Nat.le_of_ble_eq_true rfl⟩ (fun r6 σ5 τ5 H locs h5 hP hS => ?_)
  obtain ⟨-, qr6⟩ := h5
  refine lv_icmp_eq (tgt := 1358) hx hb dL_law_376 (by decide) (fun _ => ?_) (fun c => absurd (qr2.trans qr6.symm) c)
  refine lv_iinc (v := 6) (lv' := [(3, .int 6), (2, .ref (ad 55)), (1, .ref (ad 0)), (0, .ref b)]) hx hb dL_law_1358 hl (k := 0) rfl (by decide) (by decide) rfl (fun ls hl => ?_)
  refine lv_goto (tgt := 18) hx hb dL_law_1361 (by decide) ?_
  refine lv_iload_n hx hb dL_law_18 rfl (lv_at hl 0 rfl) ?_
  refine lv_aload_n hx hb dL_law_19 rfl (lv_at hl 3 rfl) ?_
  refine va_slen hx hb hX hbl hbA hS dL_law_20 ?_
  refine jtopr (y := 6) (by rw [hL6]; rfl) ?_
  refine lv_bipush (v := 6) hx hb dL_law_21 (by decide) ?_
  refine lv_isub hx hb dL_law_23 ?_
  refine jtopr (y := 0) (by decide) ?_
  refine lv_icmp_gt (tgt := 1364) hx hb dL_law_24 (by decide) (fun _ => ?_) (fun c => absurd (by decide) c)
  refine lv_iconst (v := 1) hx hb dL_law_1364 (by decide) ?_
  refine va_forget (fun q hq => hS.2.2 q hq) ?_
  refine W.widen (k := 600000) (n := 7302250) (Nat.le_of_ble_eq_true rfl) (Nat.le_of_ble_eq_true rfl) ?_
  exact lw_ret hx hb hr hlocks dL_law_1365
set_option maxHeartbeats 4000000 in
set_option maxRecDepth 100000 in
theorem law_case_5 {p : Program} {e : Env} {s : State} {m : MethodId} {below : List Frame} {meth : Method} {c : Code} (l : Launch) {b L : Nat} {xs : Nat → Int32} {D : va_G} {cI cL : ClassId} {ad : Nat → Nat} (C0 : lw_At p s m meth c b L xs) (hJ : jD ad) (hA : ∀ q, jA ad q → s.heap.size ≤ q) (hK : jK D cI cL s) (hL6 : L = 6) {H : Heap} {locs : List Loc} (hS : va_S (fun q : Nat => s.heap.size ≤ q) s.heap H locs) {ls : Array Slot} (hP : jH D cI cL ad sg0 tu0 H) (hl : lv_has ls 4 [(3, .int 0), (2, .ref (ad 55)), (1, .ref (ad 0)), (0, .ref b)]) : W p l e room_1 s m #[Value.ref b] below meth c H locs 90 348600 (lw_Z below #[Value.ref b] s) (F0 m 381 ls []) := by
  obtain ⟨hx, hb, hr, hml, hown, hts0, hX, hbl, hlocks, hgv⟩ := C0
  have hts : ∀ w ∈ wsL_law, w.before #[Value.ref b] s = true := fun w h => hts0 w (wsL_law_in w h)
  have hbA : ¬ (fun q : Nat => s.heap.size ≤ q) b := Nat.not_le.mpr hbl
  have hown : s.vm.findClass RL = some m.cls := hown
  refine lv_aload_n hx hb dL_law_381 rfl (lv_at hl 2 rfl) ?_
  refine jcallV (As := []) (rest := []) ⟨hx, hb, hml, hown, hts⟩ hK hP hA hS (c_X11_order l D cI cL ad hJ sg0 tu0 jf_9_0) cw_RL_36 (jc_0 cI cL ad sg0 tu0) rfl ⟨Nat.le_of_ble_eq_true rfl, Nat.le_of_ble_eq_true rfl⟩ rfl rfl rfl hl.1 rfl (Nat.le_of_ble_eq_true rfl) dL_law_382 ⟨Nat.le_of_ble_eq_true rfl, Nat.le_of_ble_eq_true rfl⟩ (fun r2 σ1 τ1 H locs h1 hP hS => ?_)
  obtain ⟨f3, qr2⟩ := h1
  refine lv_aload_n hx hb dL_law_385 rfl (lv_at hl 1 rfl) ?_
  have m4 : σ1 55 15 = 0 := (by rw [f3 55 (by omega)]; exact jf_55_15)
  refine jcallV (As := []) (rest := [.int r2]) ⟨hx, hb, hml, hown, hts⟩ hK hP hA hS (c_X12_order l D cI cL ad hJ σ1 τ1 m4) cw_RL_40 (jc_55 cI cL ad σ1 τ1) rfl ⟨Nat.le_of_ble_eq_true rfl, Nat.le_of_ble_eq_true rfl⟩ rfl rfl rfl hl.1 rfl (Nat.le_of_ble_eq_true rfl) dL_law_386 ⟨Nat.le_of_ble_eq_true rfl, Nat.le_of_ble_eq_true rfl⟩ (fun r6 σ5 τ5 H locs h5 hP hS => ?_)
  obtain ⟨-, qr6⟩ := h5
  refine lv_icmp_eq (tgt := 1358) hx hb dL_law_389 (by decide) (fun _ => ?_) (fun c => absurd (qr2.trans qr6.symm) c)
  refine lv_iinc (v := 6) (lv' := [(3, .int 6), (2, .ref (ad 55)), (1, .ref (ad 0)), (0, .ref b)]) hx hb dL_law_1358 hl (k := 0) rfl (by decide) (by decide) rfl (fun ls hl => ?_)
  refine lv_goto (tgt := 18) hx hb dL_law_1361 (by decide) ?_
  refine lv_iload_n hx hb dL_law_18 rfl (lv_at hl 0 rfl) ?_
  refine lv_aload_n hx hb dL_law_19 rfl (lv_at hl 3 rfl) ?_
  refine va_slen hx hb hX hbl hbA hS dL_law_20 ?_
  refine jtopr (y := 6) (by rw [hL6]; rfl) ?_
  refine lv_bipush (v := 6) hx hb dL_law_21 (by decide) ?_
  refine lv_isub hx hb dL_law_23 ?_
  refine jtopr (y := 0) (by decide) ?_
  refine lv_icmp_gt (tgt := 1364) hx hb dL_law_24 (by decide) (fun _ => ?_) (fun c => absurd (by decide) c)
  refine lv_iconst (v := 1) hx hb dL_law_1364 (by decide) ?_
  refine va_forget (fun q hq => hS.2.2 q hq) ?_
  refine W.widen (k := 600000) (n := 7302250) (Nat.le_of_ble_eq_true rfl) (Nat.le_of_ble_eq_true rfl) ?_
  exact lw_ret hx hb hr hlocks dL_law_1365
set_option maxHeartbeats 4000000 in
set_option maxRecDepth 100000 in
theorem law_case_6 {p : Program} {e : Env} {s : State} {m : MethodId} {below : List Frame} {meth : Method} {c : Code} (l : Launch) {b L : Nat} {xs : Nat → Int32} {D : va_G} {cI cL : ClassId} {ad : Nat → Nat} (C0 : lw_At p s m meth c b L xs) (hJ : jD ad) (hA : ∀ q, jA ad q → s.heap.size ≤ q) (hK : jK D cI cL s) (hL6 : L = 6) {H : Heap} {locs : List Loc} (hS : va_S (fun q : Nat => s.heap.size ≤ q) s.heap H locs) {ls : Array Slot} (hP : jH D cI cL ad sg0 tu0 H) (hl : lv_has ls 4 [(3, .int 0), (2, .ref (ad 55)), (1, .ref (ad 0)), (0, .ref b)]) : W p l e room_1 s m #[Value.ref b] below meth c H locs 90 348600 (lw_Z below #[Value.ref b] s) (F0 m 394 ls []) := by
  obtain ⟨hx, hb, hr, hml, hown, hts0, hX, hbl, hlocks, hgv⟩ := C0
  have hts : ∀ w ∈ wsL_law, w.before #[Value.ref b] s = true := fun w h => hts0 w (wsL_law_in w h)
  have hbA : ¬ (fun q : Nat => s.heap.size ≤ q) b := Nat.not_le.mpr hbl
  have hown : s.vm.findClass RL = some m.cls := hown
  refine lv_aload_n hx hb dL_law_394 rfl (lv_at hl 2 rfl) ?_
  refine lv_aload_n hx hb dL_law_395 rfl (lv_at hl 3 rfl) ?_
  refine lv_iload_n hx hb dL_law_396 rfl (lv_at hl 0 rfl) ?_
  refine lv_iconst (v := 1) hx hb dL_law_397 (by decide) ?_
  refine lv_iadd hx hb dL_law_398 ?_
  refine jtopr (y := 1) (by decide) ?_
  refine va_sld hx hb hX hbl hbA hS (jin jz_1 (by omega) (by omega)) dL_law_399 ?_
  refine jtopr (y := xs 1) rfl ?_
  refine jcallV (As := [.int (xs 1)]) (rest := []) ⟨hx, hb, hml, hown, hts⟩ hK hP hA hS (c_X11_text l D cI cL ad hJ sg0 tu0 (xs 1) ((xs 1).toInt) rfl jf_9_0) cw_RL_41 (jc_0 cI cL ad sg0 tu0) rfl ⟨Nat.le_of_ble_eq_true rfl, Nat.le_of_ble_eq_true rfl⟩ rfl rfl rfl hl.1 rfl (Nat.le_of_ble_eq_true rfl) dL_law_400 ⟨Nat.le_of_ble_eq_true rfl, Nat.le_of_ble_eq_true rfl⟩ (fun r2 σ1 τ1 H locs h1 hP hS => ?_)
  obtain ⟨f3, qr2⟩ := h1
  refine lv_aload_n hx hb dL_law_403 rfl (lv_at hl 1 rfl) ?_
  refine lv_aload_n hx hb dL_law_404 rfl (lv_at hl 3 rfl) ?_
  refine lv_iload_n hx hb dL_law_405 rfl (lv_at hl 0 rfl) ?_
  refine lv_iconst (v := 1) hx hb dL_law_406 (by decide) ?_
  refine lv_iadd hx hb dL_law_407 ?_
  refine jtopr (y := 1) (by decide) ?_
  refine va_sld hx hb hX hbl hbA hS (jin jz_1 (by omega) (by omega)) dL_law_408 ?_
  refine jtopr (y := xs 1) rfl ?_
  have m4 : σ1 55 15 = 0 := (by rw [f3 55 (by omega)]; exact jf_55_15)
  refine jcallV (As := [.int (xs 1)]) (rest := [.int r2]) ⟨hx, hb, hml, hown, hts⟩ hK hP hA hS (c_X12_text l D cI cL ad hJ σ1 τ1 (xs 1) ((xs 1).toInt) rfl m4) cw_RL_44 (jc_55 cI cL ad σ1 τ1) rfl ⟨Nat.le_of_ble_eq_true rfl, Nat.le_of_ble_eq_true rfl⟩ rfl rfl rfl hl.1 rfl (Nat.le_of_ble_eq_true rfl) dL_law_409 ⟨Nat.le_of_ble_eq_true rfl, Nat.le_of_ble_eq_true rfl⟩ (fun r6 σ5 τ5 H locs h5 hP hS => ?_)
  obtain ⟨-, qr6⟩ := h5
  refine lv_icmp_eq (tgt := 1358) hx hb dL_law_412 (by decide) (fun _ => ?_) (fun c => absurd (qr2.trans qr6.symm) c)
  refine lv_iinc (v := 6) (lv' := [(3, .int 6), (2, .ref (ad 55)), (1, .ref (ad 0)), (0, .ref b)]) hx hb dL_law_1358 hl (k := 0) rfl (by decide) (by decide) rfl (fun ls hl => ?_)
  refine lv_goto (tgt := 18) hx hb dL_law_1361 (by decide) ?_
  refine lv_iload_n hx hb dL_law_18 rfl (lv_at hl 0 rfl) ?_
  refine lv_aload_n hx hb dL_law_19 rfl (lv_at hl 3 rfl) ?_
  refine va_slen hx hb hX hbl hbA hS dL_law_20 ?_
  refine jtopr (y := 6) (by rw [hL6]; rfl) ?_
  refine lv_bipush (v := 6) hx hb dL_law_21 (by decide) ?_
  refine lv_isub hx hb dL_law_23 ?_
  refine jtopr (y := 0) (by decide) ?_
  refine lv_icmp_gt (tgt := 1364) hx hb dL_law_24 (by decide) (fun _ => ?_) (fun c => absurd (by decide) c)
  refine lv_iconst (v := 1) hx hb dL_law_1364 (by decide) ?_
  refine va_forget (fun q hq => hS.2.2 q hq) ?_
  refine W.widen (k := 600000) (n := 7302250) (Nat.le_of_ble_eq_true rfl) (Nat.le_of_ble_eq_true rfl) ?_
  exact lw_ret hx hb hr hlocks dL_law_1365
set_option maxHeartbeats 4000000 in
set_option maxRecDepth 100000 in
theorem law_case_7 {p : Program} {e : Env} {s : State} {m : MethodId} {below : List Frame} {meth : Method} {c : Code} (l : Launch) {b L : Nat} {xs : Nat → Int32} {D : va_G} {cI cL : ClassId} {ad : Nat → Nat} (C0 : lw_At p s m meth c b L xs) (hJ : jD ad) (hA : ∀ q, jA ad q → s.heap.size ≤ q) (hK : jK D cI cL s) (hL6 : L = 6) {H : Heap} {locs : List Loc} (hS : va_S (fun q : Nat => s.heap.size ≤ q) s.heap H locs) {ls : Array Slot} (hP : jH D cI cL ad sg0 tu0 H) (hl : lv_has ls 4 [(3, .int 0), (2, .ref (ad 55)), (1, .ref (ad 0)), (0, .ref b)]) : W p l e room_1 s m #[Value.ref b] below meth c H locs 90 348600 (lw_Z below #[Value.ref b] s) (F0 m 417 ls []) := by
  obtain ⟨hx, hb, hr, hml, hown, hts0, hX, hbl, hlocks, hgv⟩ := C0
  have hts : ∀ w ∈ wsL_law, w.before #[Value.ref b] s = true := fun w h => hts0 w (wsL_law_in w h)
  have hbA : ¬ (fun q : Nat => s.heap.size ≤ q) b := Nat.not_le.mpr hbl
  have hown : s.vm.findClass RL = some m.cls := hown
  refine lv_aload_n hx hb dL_law_417 rfl (lv_at hl 2 rfl) ?_
  refine lv_aload_n hx hb dL_law_418 rfl (lv_at hl 3 rfl) ?_
  refine lv_iload_n hx hb dL_law_419 rfl (lv_at hl 0 rfl) ?_
  refine lv_iconst (v := 1) hx hb dL_law_420 (by decide) ?_
  refine lv_iadd hx hb dL_law_421 ?_
  refine jtopr (y := 1) (by decide) ?_
  refine va_sld hx hb hX hbl hbA hS (jin jz_1 (by omega) (by omega)) dL_law_422 ?_
  refine jtopr (y := xs 1) rfl ?_
  refine jcallV (As := [.int (xs 1)]) (rest := []) ⟨hx, hb, hml, hown, hts⟩ hK hP hA hS (c_X11_of l D cI cL ad hJ sg0 tu0 (xs 1) ((xs 1).toInt) rfl jf_16_0 jf_16_1 jf_16_2 jfa_17) cw_RL_45 (jc_0 cI cL ad sg0 tu0) rfl ⟨Nat.le_of_ble_eq_true rfl, Nat.le_of_ble_eq_true rfl⟩ rfl rfl rfl hl.1 rfl (Nat.le_of_ble_eq_true rfl) dL_law_423 ⟨Nat.le_of_ble_eq_true rfl, Nat.le_of_ble_eq_true rfl⟩ (fun r2 σ1 τ1 H locs h1 hP hS => ?_)
  obtain ⟨f3, qr2⟩ := h1
  refine lv_aload_n hx hb dL_law_426 rfl (lv_at hl 1 rfl) ?_
  refine lv_aload_n hx hb dL_law_427 rfl (lv_at hl 3 rfl) ?_
  refine lv_iload_n hx hb dL_law_428 rfl (lv_at hl 0 rfl) ?_
  refine lv_iconst (v := 1) hx hb dL_law_429 (by decide) ?_
  refine lv_iadd hx hb dL_law_430 ?_
  refine jtopr (y := 1) (by decide) ?_
  refine va_sld hx hb hX hbl hbA hS (jin jz_1 (by omega) (by omega)) dL_law_431 ?_
  refine jtopr (y := xs 1) rfl ?_
  have m4 : σ1 55 10 = 1 := (by rw [f3 55 (by omega)]; exact jf_55_10)
  have m5 : σ1 55 12 = 8 := (by rw [f3 55 (by omega)]; exact jf_55_12)
  have m6 : σ1 55 13 = 0 := (by rw [f3 55 (by omega)]; exact jf_55_13)
  have m7 : ∀ k : Nat, σ1 62 k = 0 := (by rw [f3 62 (by omega)]; exact jfa_62)
  refine jcallV (As := [.int (xs 1)]) (rest := [.int r2]) ⟨hx, hb, hml, hown, hts⟩ hK hP hA hS (c_X12_of l D cI cL ad hJ σ1 τ1 (xs 1) ((xs 1).toInt) rfl m4 m5 m6 m7) cw_RL_48 (jc_55 cI cL ad σ1 τ1) rfl ⟨Nat.le_of_ble_eq_true rfl, Nat.le_of_ble_eq_true rfl⟩ rfl rfl rfl hl.1 rfl (Nat.le_of_ble_eq_true rfl) dL_law_432 ⟨Nat.le_of_ble_eq_true rfl, Nat.le_of_ble_eq_true rfl⟩ (fun r9 σ8 τ8 H locs h8 hP hS => ?_)
  obtain ⟨-, qr9⟩ := h8
  refine lv_icmp_eq (tgt := 1358) hx hb dL_law_435 (by decide) (fun _ => ?_) (fun c => absurd (qr2.trans qr9.symm) c)
  refine lv_iinc (v := 6) (lv' := [(3, .int 6), (2, .ref (ad 55)), (1, .ref (ad 0)), (0, .ref b)]) hx hb dL_law_1358 hl (k := 0) rfl (by decide) (by decide) rfl (fun ls hl => ?_)
  refine lv_goto (tgt := 18) hx hb dL_law_1361 (by decide) ?_
  refine lv_iload_n hx hb dL_law_18 rfl (lv_at hl 0 rfl) ?_
  refine lv_aload_n hx hb dL_law_19 rfl (lv_at hl 3 rfl) ?_
  refine va_slen hx hb hX hbl hbA hS dL_law_20 ?_
  refine jtopr (y := 6) (by rw [hL6]; rfl) ?_
  refine lv_bipush (v := 6) hx hb dL_law_21 (by decide) ?_
  refine lv_isub hx hb dL_law_23 ?_
  refine jtopr (y := 0) (by decide) ?_
  refine lv_icmp_gt (tgt := 1364) hx hb dL_law_24 (by decide) (fun _ => ?_) (fun c => absurd (by decide) c)
  refine lv_iconst (v := 1) hx hb dL_law_1364 (by decide) ?_
  refine va_forget (fun q hq => hS.2.2 q hq) ?_
  refine W.widen (k := 600000) (n := 7302250) (Nat.le_of_ble_eq_true rfl) (Nat.le_of_ble_eq_true rfl) ?_
  exact lw_ret hx hb hr hlocks dL_law_1365
set_option maxHeartbeats 4000000 in
set_option maxRecDepth 100000 in
theorem law_case_8 {p : Program} {e : Env} {s : State} {m : MethodId} {below : List Frame} {meth : Method} {c : Code} (l : Launch) {b L : Nat} {xs : Nat → Int32} {D : va_G} {cI cL : ClassId} {ad : Nat → Nat} (C0 : lw_At p s m meth c b L xs) (hJ : jD ad) (hA : ∀ q, jA ad q → s.heap.size ≤ q) (hK : jK D cI cL s) (hL6 : L = 6) {H : Heap} {locs : List Loc} (hS : va_S (fun q : Nat => s.heap.size ≤ q) s.heap H locs) {ls : Array Slot} (hP : jH D cI cL ad sg0 tu0 H) (hl : lv_has ls 4 [(3, .int 0), (2, .ref (ad 55)), (1, .ref (ad 0)), (0, .ref b)]) : W p l e room_1 s m #[Value.ref b] below meth c H locs 90 348600 (lw_Z below #[Value.ref b] s) (F0 m 440 ls []) := by
  obtain ⟨hx, hb, hr, hml, hown, hts0, hX, hbl, hlocks, hgv⟩ := C0
  have hts : ∀ w ∈ wsL_law, w.before #[Value.ref b] s = true := fun w h => hts0 w (wsL_law_in w h)
  have hbA : ¬ (fun q : Nat => s.heap.size ≤ q) b := Nat.not_le.mpr hbl
  have hown : s.vm.findClass RL = some m.cls := hown
  refine lv_aload_n hx hb dL_law_440 rfl (lv_at hl 2 rfl) ?_
  refine lv_aload_n hx hb dL_law_441 rfl (lv_at hl 3 rfl) ?_
  refine lv_iload_n hx hb dL_law_442 rfl (lv_at hl 0 rfl) ?_
  refine lv_iconst (v := 1) hx hb dL_law_443 (by decide) ?_
  refine lv_iadd hx hb dL_law_444 ?_
  refine jtopr (y := 1) (by decide) ?_
  refine va_sld hx hb hX hbl hbA hS (jin jz_1 (by omega) (by omega)) dL_law_445 ?_
  refine jtopr (y := xs 1) rfl ?_
  refine lv_aload_n hx hb dL_law_446 rfl (lv_at hl 3 rfl) ?_
  refine lv_iload_n hx hb dL_law_447 rfl (lv_at hl 0 rfl) ?_
  refine lv_iconst (v := 2) hx hb dL_law_448 (by decide) ?_
  refine lv_iadd hx hb dL_law_449 ?_
  refine jtopr (y := 2) (by decide) ?_
  refine va_sld hx hb hX hbl hbA hS (jin jz_2 (by omega) (by omega)) dL_law_450 ?_
  refine jtopr (y := xs 2) rfl ?_
  refine lv_aload_n hx hb dL_law_451 rfl (lv_at hl 3 rfl) ?_
  refine lv_iload_n hx hb dL_law_452 rfl (lv_at hl 0 rfl) ?_
  refine lv_iconst (v := 3) hx hb dL_law_453 (by decide) ?_
  refine lv_iadd hx hb dL_law_454 ?_
  refine jtopr (y := 3) (by decide) ?_
  refine va_sld hx hb hX hbl hbA hS (jin jz_3 (by omega) (by omega)) dL_law_455 ?_
  refine jtopr (y := xs 3) rfl ?_
  refine jcallV (As := [.int (xs 1), .int (xs 2), .int (xs 3)]) (rest := []) ⟨hx, hb, hml, hown, hts⟩ hK hP hA hS (c_X11_over l D cI cL ad hJ sg0 tu0 (xs 1) ((xs 1).toInt) rfl (xs 2) ((xs 2).toInt) rfl (xs 3) ((xs 3).toInt) rfl jf_2_0) cw_RL_49 (jc_0 cI cL ad sg0 tu0) rfl ⟨Nat.le_of_ble_eq_true rfl, Nat.le_of_ble_eq_true rfl⟩ rfl rfl rfl hl.1 rfl (Nat.le_of_ble_eq_true rfl) dL_law_456 ⟨Nat.le_of_ble_eq_true rfl, Nat.le_of_ble_eq_true rfl⟩ (fun r2 σ1 τ1 H locs h1 hP hS => ?_)
  obtain ⟨f3, qr2⟩ := h1
  refine lv_aload_n hx hb dL_law_459 rfl (lv_at hl 1 rfl) ?_
  refine lv_aload_n hx hb dL_law_460 rfl (lv_at hl 3 rfl) ?_
  refine lv_iload_n hx hb dL_law_461 rfl (lv_at hl 0 rfl) ?_
  refine lv_iconst (v := 1) hx hb dL_law_462 (by decide) ?_
  refine lv_iadd hx hb dL_law_463 ?_
  refine jtopr (y := 1) (by decide) ?_
  refine va_sld hx hb hX hbl hbA hS (jin jz_1 (by omega) (by omega)) dL_law_464 ?_
  refine jtopr (y := xs 1) rfl ?_
  refine lv_aload_n hx hb dL_law_465 rfl (lv_at hl 3 rfl) ?_
  refine lv_iload_n hx hb dL_law_466 rfl (lv_at hl 0 rfl) ?_
  refine lv_iconst (v := 2) hx hb dL_law_467 (by decide) ?_
  refine lv_iadd hx hb dL_law_468 ?_
  refine jtopr (y := 2) (by decide) ?_
  refine va_sld hx hb hX hbl hbA hS (jin jz_2 (by omega) (by omega)) dL_law_469 ?_
  refine jtopr (y := xs 2) rfl ?_
  refine lv_aload_n hx hb dL_law_470 rfl (lv_at hl 3 rfl) ?_
  refine lv_iload_n hx hb dL_law_471 rfl (lv_at hl 0 rfl) ?_
  refine lv_iconst (v := 3) hx hb dL_law_472 (by decide) ?_
  refine lv_iadd hx hb dL_law_473 ?_
  refine jtopr (y := 3) (by decide) ?_
  refine va_sld hx hb hX hbl hbA hS (jin jz_3 (by omega) (by omega)) dL_law_474 ?_
  refine jtopr (y := xs 3) rfl ?_
  have m4 : σ1 55 6 = 0 := (by rw [f3 55 (by omega)]; exact jf_55_6)
  refine jcallV (As := [.int (xs 1), .int (xs 2), .int (xs 3)]) (rest := [.int r2]) ⟨hx, hb, hml, hown, hts⟩ hK hP hA hS (c_X12_over l D cI cL ad hJ σ1 τ1 (xs 1) ((xs 1).toInt) rfl (xs 2) ((xs 2).toInt) rfl (xs 3) ((xs 3).toInt) rfl m4) cw_RL_52 (jc_55 cI cL ad σ1 τ1) rfl ⟨Nat.le_of_ble_eq_true rfl, Nat.le_of_ble_eq_true rfl⟩ rfl rfl rfl hl.1 rfl (Nat.le_of_ble_eq_true rfl) dL_law_475 ⟨Nat.le_of_ble_eq_true rfl, Nat.le_of_ble_eq_true rfl⟩ (fun r6 σ5 τ5 H locs h5 hP hS => ?_)
  obtain ⟨-, qr6⟩ := h5
  refine lv_icmp_eq (tgt := 1358) hx hb dL_law_478 (by decide) (fun _ => ?_) (fun c => absurd (qr2.trans qr6.symm) c)
  refine lv_iinc (v := 6) (lv' := [(3, .int 6), (2, .ref (ad 55)), (1, .ref (ad 0)), (0, .ref b)]) hx hb dL_law_1358 hl (k := 0) rfl (by decide) (by decide) rfl (fun ls hl => ?_)
  refine lv_goto (tgt := 18) hx hb dL_law_1361 (by decide) ?_
  refine lv_iload_n hx hb dL_law_18 rfl (lv_at hl 0 rfl) ?_
  refine lv_aload_n hx hb dL_law_19 rfl (lv_at hl 3 rfl) ?_
  refine va_slen hx hb hX hbl hbA hS dL_law_20 ?_
  refine jtopr (y := 6) (by rw [hL6]; rfl) ?_
  refine lv_bipush (v := 6) hx hb dL_law_21 (by decide) ?_
  refine lv_isub hx hb dL_law_23 ?_
  refine jtopr (y := 0) (by decide) ?_
  refine lv_icmp_gt (tgt := 1364) hx hb dL_law_24 (by decide) (fun _ => ?_) (fun c => absurd (by decide) c)
  refine lv_iconst (v := 1) hx hb dL_law_1364 (by decide) ?_
  refine va_forget (fun q hq => hS.2.2 q hq) ?_
  refine W.widen (k := 600000) (n := 7302250) (Nat.le_of_ble_eq_true rfl) (Nat.le_of_ble_eq_true rfl) ?_
  exact lw_ret hx hb hr hlocks dL_law_1365
set_option maxHeartbeats 4000000 in
set_option maxRecDepth 100000 in
theorem law_case_9 {p : Program} {e : Env} {s : State} {m : MethodId} {below : List Frame} {meth : Method} {c : Code} (l : Launch) {b L : Nat} {xs : Nat → Int32} {D : va_G} {cI cL : ClassId} {ad : Nat → Nat} (C0 : lw_At p s m meth c b L xs) (hJ : jD ad) (hA : ∀ q, jA ad q → s.heap.size ≤ q) (hK : jK D cI cL s) (hL6 : L = 6) {H : Heap} {locs : List Loc} (hS : va_S (fun q : Nat => s.heap.size ≤ q) s.heap H locs) {ls : Array Slot} (hP : jH D cI cL ad sg0 tu0 H) (hl : lv_has ls 4 [(3, .int 0), (2, .ref (ad 55)), (1, .ref (ad 0)), (0, .ref b)]) : W p l e room_1 s m #[Value.ref b] below meth c H locs 90 348600 (lw_Z below #[Value.ref b] s) (F0 m 483 ls []) := by
  obtain ⟨hx, hb, hr, hml, hown, hts0, hX, hbl, hlocks, hgv⟩ := C0
  have hts : ∀ w ∈ wsL_law, w.before #[Value.ref b] s = true := fun w h => hts0 w (wsL_law_in w h)
  have hbA : ¬ (fun q : Nat => s.heap.size ≤ q) b := Nat.not_le.mpr hbl
  have hown : s.vm.findClass RL = some m.cls := hown
  refine lv_aload_n hx hb dL_law_483 rfl (lv_at hl 2 rfl) ?_
  refine lv_aload_n hx hb dL_law_484 rfl (lv_at hl 3 rfl) ?_
  refine lv_iload_n hx hb dL_law_485 rfl (lv_at hl 0 rfl) ?_
  refine lv_iconst (v := 1) hx hb dL_law_486 (by decide) ?_
  refine lv_iadd hx hb dL_law_487 ?_
  refine jtopr (y := 1) (by decide) ?_
  refine va_sld hx hb hX hbl hbA hS (jin jz_1 (by omega) (by omega)) dL_law_488 ?_
  refine jtopr (y := xs 1) rfl ?_
  refine lv_aload_n hx hb dL_law_489 rfl (lv_at hl 3 rfl) ?_
  refine lv_iload_n hx hb dL_law_490 rfl (lv_at hl 0 rfl) ?_
  refine lv_iconst (v := 2) hx hb dL_law_491 (by decide) ?_
  refine lv_iadd hx hb dL_law_492 ?_
  refine jtopr (y := 2) (by decide) ?_
  refine va_sld hx hb hX hbl hbA hS (jin jz_2 (by omega) (by omega)) dL_law_493 ?_
  refine jtopr (y := xs 2) rfl ?_
  refine lv_aload_n hx hb dL_law_494 rfl (lv_at hl 3 rfl) ?_
  refine lv_iload_n hx hb dL_law_495 rfl (lv_at hl 0 rfl) ?_
  refine lv_iconst (v := 3) hx hb dL_law_496 (by decide) ?_
  refine lv_iadd hx hb dL_law_497 ?_
  refine jtopr (y := 3) (by decide) ?_
  refine va_sld hx hb hX hbl hbA hS (jin jz_3 (by omega) (by omega)) dL_law_498 ?_
  refine jtopr (y := xs 3) rfl ?_
  refine jcallV (As := [.int (xs 1), .int (xs 2), .int (xs 3)]) (rest := []) ⟨hx, hb, hml, hown, hts⟩ hK hP hA hS (c_X11_rule l D cI cL ad hJ sg0 tu0 (xs 1) ((xs 1).toInt) rfl (xs 2) ((xs 2).toInt) rfl (xs 3) ((xs 3).toInt) rfl jf_38_0) cw_RL_53 (jc_0 cI cL ad sg0 tu0) rfl ⟨Nat.le_of_ble_eq_true rfl, Nat.le_of_ble_eq_true rfl⟩ rfl rfl rfl hl.1 rfl (Nat.le_of_ble_eq_true rfl) dL_law_499 ⟨Nat.le_of_ble_eq_true rfl, Nat.le_of_ble_eq_true rfl⟩ (fun r2 σ1 τ1 H locs h1 hP hS => ?_)
  obtain ⟨f3, qr2⟩ := h1
  refine lv_aload_n hx hb dL_law_502 rfl (lv_at hl 1 rfl) ?_
  refine lv_aload_n hx hb dL_law_503 rfl (lv_at hl 3 rfl) ?_
  refine lv_iload_n hx hb dL_law_504 rfl (lv_at hl 0 rfl) ?_
  refine lv_iconst (v := 1) hx hb dL_law_505 (by decide) ?_
  refine lv_iadd hx hb dL_law_506 ?_
  refine jtopr (y := 1) (by decide) ?_
  refine va_sld hx hb hX hbl hbA hS (jin jz_1 (by omega) (by omega)) dL_law_507 ?_
  refine jtopr (y := xs 1) rfl ?_
  refine lv_aload_n hx hb dL_law_508 rfl (lv_at hl 3 rfl) ?_
  refine lv_iload_n hx hb dL_law_509 rfl (lv_at hl 0 rfl) ?_
  refine lv_iconst (v := 2) hx hb dL_law_510 (by decide) ?_
  refine lv_iadd hx hb dL_law_511 ?_
  refine jtopr (y := 2) (by decide) ?_
  refine va_sld hx hb hX hbl hbA hS (jin jz_2 (by omega) (by omega)) dL_law_512 ?_
  refine jtopr (y := xs 2) rfl ?_
  refine lv_aload_n hx hb dL_law_513 rfl (lv_at hl 3 rfl) ?_
  refine lv_iload_n hx hb dL_law_514 rfl (lv_at hl 0 rfl) ?_
  refine lv_iconst (v := 3) hx hb dL_law_515 (by decide) ?_
  refine lv_iadd hx hb dL_law_516 ?_
  refine jtopr (y := 3) (by decide) ?_
  refine va_sld hx hb hX hbl hbA hS (jin jz_3 (by omega) (by omega)) dL_law_517 ?_
  refine jtopr (y := xs 3) rfl ?_
  have m4 : σ1 55 32 = 0 := (by rw [f3 55 (by omega)]; exact jf_55_32)
  refine jcallV (As := [.int (xs 1), .int (xs 2), .int (xs 3)]) (rest := [.int r2]) ⟨hx, hb, hml, hown, hts⟩ hK hP hA hS (c_X12_rule l D cI cL ad hJ σ1 τ1 (xs 1) ((xs 1).toInt) rfl (xs 2) ((xs 2).toInt) rfl (xs 3) ((xs 3).toInt) rfl m4) cw_RL_56 (jc_55 cI cL ad σ1 τ1) rfl ⟨Nat.le_of_ble_eq_true rfl, Nat.le_of_ble_eq_true rfl⟩ rfl rfl rfl hl.1 rfl (Nat.le_of_ble_eq_true rfl) dL_law_518 ⟨Nat.le_of_ble_eq_true rfl, Nat.le_of_ble_eq_true rfl⟩ (fun r6 σ5 τ5 H locs h5 hP hS => ?_)
  obtain ⟨-, qr6⟩ := h5
  refine lv_icmp_eq (tgt := 1358) hx hb dL_law_521 (by decide) (fun _ => ?_) (fun c => absurd (qr2.trans qr6.symm) c)
  refine lv_iinc (v := 6) (lv' := [(3, .int 6), (2, .ref (ad 55)), (1, .ref (ad 0)), (0, .ref b)]) hx hb dL_law_1358 hl (k := 0) rfl (by decide) (by decide) rfl (fun ls hl => ?_)
  refine lv_goto (tgt := 18) hx hb dL_law_1361 (by decide) ?_
  refine lv_iload_n hx hb dL_law_18 rfl (lv_at hl 0 rfl) ?_
  refine lv_aload_n hx hb dL_law_19 rfl (lv_at hl 3 rfl) ?_
  refine va_slen hx hb hX hbl hbA hS dL_law_20 ?_
  refine jtopr (y := 6) (by rw [hL6]; rfl) ?_
  refine lv_bipush (v := 6) hx hb dL_law_21 (by decide) ?_
  refine lv_isub hx hb dL_law_23 ?_
  refine jtopr (y := 0) (by decide) ?_
  refine lv_icmp_gt (tgt := 1364) hx hb dL_law_24 (by decide) (fun _ => ?_) (fun c => absurd (by decide) c)
  refine lv_iconst (v := 1) hx hb dL_law_1364 (by decide) ?_
  refine va_forget (fun q hq => hS.2.2 q hq) ?_
  refine W.widen (k := 600000) (n := 7302250) (Nat.le_of_ble_eq_true rfl) (Nat.le_of_ble_eq_true rfl) ?_
  exact lw_ret hx hb hr hlocks dL_law_1365
set_option maxHeartbeats 4000000 in
set_option maxRecDepth 100000 in
theorem law_case_10 {p : Program} {e : Env} {s : State} {m : MethodId} {below : List Frame} {meth : Method} {c : Code} (l : Launch) {b L : Nat} {xs : Nat → Int32} {D : va_G} {cI cL : ClassId} {ad : Nat → Nat} (C0 : lw_At p s m meth c b L xs) (hJ : jD ad) (hA : ∀ q, jA ad q → s.heap.size ≤ q) (hK : jK D cI cL s) (hL6 : L = 6) {H : Heap} {locs : List Loc} (hS : va_S (fun q : Nat => s.heap.size ≤ q) s.heap H locs) {ls : Array Slot} (hP : jH D cI cL ad sg0 tu0 H) (hl : lv_has ls 4 [(3, .int 0), (2, .ref (ad 55)), (1, .ref (ad 0)), (0, .ref b)]) : W p l e room_1 s m #[Value.ref b] below meth c H locs 90 348600 (lw_Z below #[Value.ref b] s) (F0 m 526 ls []) := by
  obtain ⟨hx, hb, hr, hml, hown, hts0, hX, hbl, hlocks, hgv⟩ := C0
  have hts : ∀ w ∈ wsL_law, w.before #[Value.ref b] s = true := fun w h => hts0 w (wsL_law_in w h)
  have hbA : ¬ (fun q : Nat => s.heap.size ≤ q) b := Nat.not_le.mpr hbl
  have hown : s.vm.findClass RL = some m.cls := hown
  refine lv_aload_n hx hb dL_law_526 rfl (lv_at hl 2 rfl) ?_
  refine lv_aload_n hx hb dL_law_527 rfl (lv_at hl 3 rfl) ?_
  refine lv_iload_n hx hb dL_law_528 rfl (lv_at hl 0 rfl) ?_
  refine lv_iconst (v := 1) hx hb dL_law_529 (by decide) ?_
  refine lv_iadd hx hb dL_law_530 ?_
  refine jtopr (y := 1) (by decide) ?_
  refine va_sld hx hb hX hbl hbA hS (jin jz_1 (by omega) (by omega)) dL_law_531 ?_
  refine jtopr (y := xs 1) rfl ?_
  refine jcallV (As := [.int (xs 1)]) (rest := []) ⟨hx, hb, hml, hown, hts⟩ hK hP hA hS (c_X11_puts l D cI cL ad hJ sg0 tu0 (xs 1) ((xs 1).toInt) rfl jf_38_0) cw_RL_57 (jc_0 cI cL ad sg0 tu0) rfl ⟨Nat.le_of_ble_eq_true rfl, Nat.le_of_ble_eq_true rfl⟩ rfl rfl rfl hl.1 rfl (Nat.le_of_ble_eq_true rfl) dL_law_532 ⟨Nat.le_of_ble_eq_true rfl, Nat.le_of_ble_eq_true rfl⟩ (fun r2 σ1 τ1 H locs h1 hP hS => ?_)
  obtain ⟨f3, qr2⟩ := h1
  refine lv_aload_n hx hb dL_law_535 rfl (lv_at hl 1 rfl) ?_
  refine lv_aload_n hx hb dL_law_536 rfl (lv_at hl 3 rfl) ?_
  refine lv_iload_n hx hb dL_law_537 rfl (lv_at hl 0 rfl) ?_
  refine lv_iconst (v := 1) hx hb dL_law_538 (by decide) ?_
  refine lv_iadd hx hb dL_law_539 ?_
  refine jtopr (y := 1) (by decide) ?_
  refine va_sld hx hb hX hbl hbA hS (jin jz_1 (by omega) (by omega)) dL_law_540 ?_
  refine jtopr (y := xs 1) rfl ?_
  have m4 : σ1 55 32 = 0 := (by rw [f3 55 (by omega)]; exact jf_55_32)
  refine jcallV (As := [.int (xs 1)]) (rest := [.int r2]) ⟨hx, hb, hml, hown, hts⟩ hK hP hA hS (c_X12_puts l D cI cL ad hJ σ1 τ1 (xs 1) ((xs 1).toInt) rfl m4) cw_RL_60 (jc_55 cI cL ad σ1 τ1) rfl ⟨Nat.le_of_ble_eq_true rfl, Nat.le_of_ble_eq_true rfl⟩ rfl rfl rfl hl.1 rfl (Nat.le_of_ble_eq_true rfl) dL_law_541 ⟨Nat.le_of_ble_eq_true rfl, Nat.le_of_ble_eq_true rfl⟩ (fun r6 σ5 τ5 H locs h5 hP hS => ?_)
  obtain ⟨-, qr6⟩ := h5
  refine lv_icmp_eq (tgt := 1358) hx hb dL_law_544 (by decide) (fun _ => ?_) (fun c => absurd (qr2.trans qr6.symm) c)
  refine lv_iinc (v := 6) (lv' := [(3, .int 6), (2, .ref (ad 55)), (1, .ref (ad 0)), (0, .ref b)]) hx hb dL_law_1358 hl (k := 0) rfl (by decide) (by decide) rfl (fun ls hl => ?_)
  refine lv_goto (tgt := 18) hx hb dL_law_1361 (by decide) ?_
  refine lv_iload_n hx hb dL_law_18 rfl (lv_at hl 0 rfl) ?_
  refine lv_aload_n hx hb dL_law_19 rfl (lv_at hl 3 rfl) ?_
  refine va_slen hx hb hX hbl hbA hS dL_law_20 ?_
  refine jtopr (y := 6) (by rw [hL6]; rfl) ?_
  refine lv_bipush (v := 6) hx hb dL_law_21 (by decide) ?_
  refine lv_isub hx hb dL_law_23 ?_
  refine jtopr (y := 0) (by decide) ?_
  refine lv_icmp_gt (tgt := 1364) hx hb dL_law_24 (by decide) (fun _ => ?_) (fun c => absurd (by decide) c)
  refine lv_iconst (v := 1) hx hb dL_law_1364 (by decide) ?_
  refine va_forget (fun q hq => hS.2.2 q hq) ?_
  refine W.widen (k := 600000) (n := 7302250) (Nat.le_of_ble_eq_true rfl) (Nat.le_of_ble_eq_true rfl) ?_
  exact lw_ret hx hb hr hlocks dL_law_1365
set_option maxHeartbeats 4000000 in
set_option maxRecDepth 100000 in
theorem law_case_11 {p : Program} {e : Env} {s : State} {m : MethodId} {below : List Frame} {meth : Method} {c : Code} (l : Launch) {b L : Nat} {xs : Nat → Int32} {D : va_G} {cI cL : ClassId} {ad : Nat → Nat} (C0 : lw_At p s m meth c b L xs) (hJ : jD ad) (hA : ∀ q, jA ad q → s.heap.size ≤ q) (hK : jK D cI cL s) (hL6 : L = 6) {H : Heap} {locs : List Loc} (hS : va_S (fun q : Nat => s.heap.size ≤ q) s.heap H locs) {ls : Array Slot} (hP : jH D cI cL ad sg0 tu0 H) (hl : lv_has ls 4 [(3, .int 0), (2, .ref (ad 55)), (1, .ref (ad 0)), (0, .ref b)]) : W p l e room_1 s m #[Value.ref b] below meth c H locs 90 348600 (lw_Z below #[Value.ref b] s) (F0 m 549 ls []) := by
  obtain ⟨hx, hb, hr, hml, hown, hts0, hX, hbl, hlocks, hgv⟩ := C0
  have hts : ∀ w ∈ wsL_law, w.before #[Value.ref b] s = true := fun w h => hts0 w (wsL_law_in w h)
  have hbA : ¬ (fun q : Nat => s.heap.size ≤ q) b := Nat.not_le.mpr hbl
  have hown : s.vm.findClass RL = some m.cls := hown
  refine lv_aload_n hx hb dL_law_549 rfl (lv_at hl 2 rfl) ?_
  refine lv_aload_n hx hb dL_law_550 rfl (lv_at hl 3 rfl) ?_
  refine lv_iload_n hx hb dL_law_551 rfl (lv_at hl 0 rfl) ?_
  refine lv_iconst (v := 1) hx hb dL_law_552 (by decide) ?_
  refine lv_iadd hx hb dL_law_553 ?_
  refine jtopr (y := 1) (by decide) ?_
  refine va_sld hx hb hX hbl hbA hS (jin jz_1 (by omega) (by omega)) dL_law_554 ?_
  refine jtopr (y := xs 1) rfl ?_
  refine jcallV (As := [.int (xs 1)]) (rest := []) ⟨hx, hb, hml, hown, hts⟩ hK hP hA hS (c_X11_mean l D cI cL ad hJ sg0 tu0 (xs 1) ((xs 1).toInt) rfl jf_38_0) cw_RL_61 (jc_0 cI cL ad sg0 tu0) rfl ⟨Nat.le_of_ble_eq_true rfl, Nat.le_of_ble_eq_true rfl⟩ rfl rfl rfl hl.1 rfl (Nat.le_of_ble_eq_true rfl) dL_law_555 ⟨Nat.le_of_ble_eq_true rfl, Nat.le_of_ble_eq_true rfl⟩ (fun r2 σ1 τ1 H locs h1 hP hS => ?_)
  obtain ⟨f3, qr2⟩ := h1
  refine lv_aload_n hx hb dL_law_558 rfl (lv_at hl 1 rfl) ?_
  refine lv_aload_n hx hb dL_law_559 rfl (lv_at hl 3 rfl) ?_
  refine lv_iload_n hx hb dL_law_560 rfl (lv_at hl 0 rfl) ?_
  refine lv_iconst (v := 1) hx hb dL_law_561 (by decide) ?_
  refine lv_iadd hx hb dL_law_562 ?_
  refine jtopr (y := 1) (by decide) ?_
  refine va_sld hx hb hX hbl hbA hS (jin jz_1 (by omega) (by omega)) dL_law_563 ?_
  refine jtopr (y := xs 1) rfl ?_
  have m4 : σ1 55 32 = 0 := (by rw [f3 55 (by omega)]; exact jf_55_32)
  refine jcallV (As := [.int (xs 1)]) (rest := [.int r2]) ⟨hx, hb, hml, hown, hts⟩ hK hP hA hS (c_X12_mean l D cI cL ad hJ σ1 τ1 (xs 1) ((xs 1).toInt) rfl m4) cw_RL_64 (jc_55 cI cL ad σ1 τ1) rfl ⟨Nat.le_of_ble_eq_true rfl, Nat.le_of_ble_eq_true rfl⟩ rfl rfl rfl hl.1 rfl (Nat.le_of_ble_eq_true rfl) dL_law_564 ⟨Nat.le_of_ble_eq_true rfl, Nat.le_of_ble_eq_true rfl⟩ (fun r6 σ5 τ5 H locs h5 hP hS => ?_)
  obtain ⟨-, qr6⟩ := h5
  refine lv_icmp_eq (tgt := 1358) hx hb dL_law_567 (by decide) (fun _ => ?_) (fun c => absurd (qr2.trans qr6.symm) c)
  refine lv_iinc (v := 6) (lv' := [(3, .int 6), (2, .ref (ad 55)), (1, .ref (ad 0)), (0, .ref b)]) hx hb dL_law_1358 hl (k := 0) rfl (by decide) (by decide) rfl (fun ls hl => ?_)
  refine lv_goto (tgt := 18) hx hb dL_law_1361 (by decide) ?_
  refine lv_iload_n hx hb dL_law_18 rfl (lv_at hl 0 rfl) ?_
  refine lv_aload_n hx hb dL_law_19 rfl (lv_at hl 3 rfl) ?_
  refine va_slen hx hb hX hbl hbA hS dL_law_20 ?_
  refine jtopr (y := 6) (by rw [hL6]; rfl) ?_
  refine lv_bipush (v := 6) hx hb dL_law_21 (by decide) ?_
  refine lv_isub hx hb dL_law_23 ?_
  refine jtopr (y := 0) (by decide) ?_
  refine lv_icmp_gt (tgt := 1364) hx hb dL_law_24 (by decide) (fun _ => ?_) (fun c => absurd (by decide) c)
  refine lv_iconst (v := 1) hx hb dL_law_1364 (by decide) ?_
  refine va_forget (fun q hq => hS.2.2 q hq) ?_
  refine W.widen (k := 600000) (n := 7302250) (Nat.le_of_ble_eq_true rfl) (Nat.le_of_ble_eq_true rfl) ?_
  exact lw_ret hx hb hr hlocks dL_law_1365
set_option maxHeartbeats 4000000 in
set_option maxRecDepth 100000 in
theorem law_case_12 {p : Program} {e : Env} {s : State} {m : MethodId} {below : List Frame} {meth : Method} {c : Code} (l : Launch) {b L : Nat} {xs : Nat → Int32} {D : va_G} {cI cL : ClassId} {ad : Nat → Nat} (C0 : lw_At p s m meth c b L xs) (hJ : jD ad) (hA : ∀ q, jA ad q → s.heap.size ≤ q) (hK : jK D cI cL s) (hL6 : L = 6) {H : Heap} {locs : List Loc} (hS : va_S (fun q : Nat => s.heap.size ≤ q) s.heap H locs) {ls : Array Slot} (hP : jH D cI cL ad sg0 tu0 H) (hl : lv_has ls 4 [(3, .int 0), (2, .ref (ad 55)), (1, .ref (ad 0)), (0, .ref b)]) : W p l e room_1 s m #[Value.ref b] below meth c H locs 90 348600 (lw_Z below #[Value.ref b] s) (F0 m 572 ls []) := by
  obtain ⟨hx, hb, hr, hml, hown, hts0, hX, hbl, hlocks, hgv⟩ := C0
  have hts : ∀ w ∈ wsL_law, w.before #[Value.ref b] s = true := fun w h => hts0 w (wsL_law_in w h)
  have hbA : ¬ (fun q : Nat => s.heap.size ≤ q) b := Nat.not_le.mpr hbl
  have hown : s.vm.findClass RL = some m.cls := hown
  refine lv_aload_n hx hb dL_law_572 rfl (lv_at hl 2 rfl) ?_
  refine lv_aload_n hx hb dL_law_573 rfl (lv_at hl 3 rfl) ?_
  refine lv_iload_n hx hb dL_law_574 rfl (lv_at hl 0 rfl) ?_
  refine lv_iconst (v := 1) hx hb dL_law_575 (by decide) ?_
  refine lv_iadd hx hb dL_law_576 ?_
  refine jtopr (y := 1) (by decide) ?_
  refine va_sld hx hb hX hbl hbA hS (jin jz_1 (by omega) (by omega)) dL_law_577 ?_
  refine jtopr (y := xs 1) rfl ?_
  refine lv_aload_n hx hb dL_law_578 rfl (lv_at hl 3 rfl) ?_
  refine lv_iload_n hx hb dL_law_579 rfl (lv_at hl 0 rfl) ?_
  refine lv_iconst (v := 2) hx hb dL_law_580 (by decide) ?_
  refine lv_iadd hx hb dL_law_581 ?_
  refine jtopr (y := 2) (by decide) ?_
  refine va_sld hx hb hX hbl hbA hS (jin jz_2 (by omega) (by omega)) dL_law_582 ?_
  refine jtopr (y := xs 2) rfl ?_
  refine jcallV (As := [.int (xs 1), .int (xs 2)]) (rest := []) ⟨hx, hb, hml, hown, hts⟩ hK hP hA hS (c_X11_likely l D cI cL ad hJ sg0 tu0 (xs 1) ((xs 1).toInt) rfl (xs 2) ((xs 2).toInt) rfl jf_38_0) cw_RL_65 (jc_0 cI cL ad sg0 tu0) rfl ⟨Nat.le_of_ble_eq_true rfl, Nat.le_of_ble_eq_true rfl⟩ rfl rfl rfl hl.1 rfl (Nat.le_of_ble_eq_true rfl) dL_law_583 ⟨Nat.le_of_ble_eq_true rfl, Nat.le_of_ble_eq_true rfl⟩ (fun r2 σ1 τ1 H locs h1 hP hS => ?_)
  obtain ⟨f3, qr2⟩ := h1
  refine lv_aload_n hx hb dL_law_586 rfl (lv_at hl 1 rfl) ?_
  refine lv_aload_n hx hb dL_law_587 rfl (lv_at hl 3 rfl) ?_
  refine lv_iload_n hx hb dL_law_588 rfl (lv_at hl 0 rfl) ?_
  refine lv_iconst (v := 1) hx hb dL_law_589 (by decide) ?_
  refine lv_iadd hx hb dL_law_590 ?_
  refine jtopr (y := 1) (by decide) ?_
  refine va_sld hx hb hX hbl hbA hS (jin jz_1 (by omega) (by omega)) dL_law_591 ?_
  refine jtopr (y := xs 1) rfl ?_
  refine lv_aload_n hx hb dL_law_592 rfl (lv_at hl 3 rfl) ?_
  refine lv_iload_n hx hb dL_law_593 rfl (lv_at hl 0 rfl) ?_
  refine lv_iconst (v := 2) hx hb dL_law_594 (by decide) ?_
  refine lv_iadd hx hb dL_law_595 ?_
  refine jtopr (y := 2) (by decide) ?_
  refine va_sld hx hb hX hbl hbA hS (jin jz_2 (by omega) (by omega)) dL_law_596 ?_
  refine jtopr (y := xs 2) rfl ?_
  have m4 : σ1 55 32 = 0 := (by rw [f3 55 (by omega)]; exact jf_55_32)
  refine jcallV (As := [.int (xs 1), .int (xs 2)]) (rest := [.int r2]) ⟨hx, hb, hml, hown, hts⟩ hK hP hA hS (c_X12_likely l D cI cL ad hJ σ1 τ1 (xs 1) ((xs 1).toInt) rfl (xs 2) ((xs 2).toInt) rfl m4) cw_RL_68 (jc_55 cI cL ad σ1 τ1) rfl ⟨Nat.le_of_ble_eq_true rfl, Nat.le_of_ble_eq_true rfl⟩ rfl rfl rfl hl.1 rfl (Nat.le_of_ble_eq_true rfl) dL_law_597 ⟨Nat.le_of_ble_eq_true rfl, Nat.le_of_ble_eq_true rfl⟩ (fun r6 σ5 τ5 H locs h5 hP hS => ?_)
  obtain ⟨-, qr6⟩ := h5
  refine lv_icmp_eq (tgt := 1358) hx hb dL_law_600 (by decide) (fun _ => ?_) (fun c => absurd (qr2.trans qr6.symm) c)
  refine lv_iinc (v := 6) (lv' := [(3, .int 6), (2, .ref (ad 55)), (1, .ref (ad 0)), (0, .ref b)]) hx hb dL_law_1358 hl (k := 0) rfl (by decide) (by decide) rfl (fun ls hl => ?_)
  refine lv_goto (tgt := 18) hx hb dL_law_1361 (by decide) ?_
  refine lv_iload_n hx hb dL_law_18 rfl (lv_at hl 0 rfl) ?_
  refine lv_aload_n hx hb dL_law_19 rfl (lv_at hl 3 rfl) ?_
  refine va_slen hx hb hX hbl hbA hS dL_law_20 ?_
  refine jtopr (y := 6) (by rw [hL6]; rfl) ?_
  refine lv_bipush (v := 6) hx hb dL_law_21 (by decide) ?_
  refine lv_isub hx hb dL_law_23 ?_
  refine jtopr (y := 0) (by decide) ?_
  refine lv_icmp_gt (tgt := 1364) hx hb dL_law_24 (by decide) (fun _ => ?_) (fun c => absurd (by decide) c)
  refine lv_iconst (v := 1) hx hb dL_law_1364 (by decide) ?_
  refine va_forget (fun q hq => hS.2.2 q hq) ?_
  refine W.widen (k := 600000) (n := 7302250) (Nat.le_of_ble_eq_true rfl) (Nat.le_of_ble_eq_true rfl) ?_
  exact lw_ret hx hb hr hlocks dL_law_1365
set_option maxHeartbeats 4000000 in
set_option maxRecDepth 100000 in
theorem law_case_13 {p : Program} {e : Env} {s : State} {m : MethodId} {below : List Frame} {meth : Method} {c : Code} (l : Launch) {b L : Nat} {xs : Nat → Int32} {D : va_G} {cI cL : ClassId} {ad : Nat → Nat} (C0 : lw_At p s m meth c b L xs) (hJ : jD ad) (hA : ∀ q, jA ad q → s.heap.size ≤ q) (hK : jK D cI cL s) (hL6 : L = 6) {H : Heap} {locs : List Loc} (hS : va_S (fun q : Nat => s.heap.size ≤ q) s.heap H locs) {ls : Array Slot} (hP : jH D cI cL ad sg0 tu0 H) (hl : lv_has ls 4 [(3, .int 0), (2, .ref (ad 55)), (1, .ref (ad 0)), (0, .ref b)]) : W p l e room_1 s m #[Value.ref b] below meth c H locs 90 348600 (lw_Z below #[Value.ref b] s) (F0 m 605 ls []) := by
  obtain ⟨hx, hb, hr, hml, hown, hts0, hX, hbl, hlocks, hgv⟩ := C0
  have hts : ∀ w ∈ wsL_law, w.before #[Value.ref b] s = true := fun w h => hts0 w (wsL_law_in w h)
  have hbA : ¬ (fun q : Nat => s.heap.size ≤ q) b := Nat.not_le.mpr hbl
  have hown : s.vm.findClass RL = some m.cls := hown
  refine lv_aload_n hx hb dL_law_605 rfl (lv_at hl 2 rfl) ?_
  refine lv_aload_n hx hb dL_law_606 rfl (lv_at hl 3 rfl) ?_
  refine lv_iload_n hx hb dL_law_607 rfl (lv_at hl 0 rfl) ?_
  refine lv_iconst (v := 1) hx hb dL_law_608 (by decide) ?_
  refine lv_iadd hx hb dL_law_609 ?_
  refine jtopr (y := 1) (by decide) ?_
  refine va_sld hx hb hX hbl hbA hS (jin jz_1 (by omega) (by omega)) dL_law_610 ?_
  refine jtopr (y := xs 1) rfl ?_
  refine jcallV (As := [.int (xs 1)]) (rest := []) ⟨hx, hb, hml, hown, hts⟩ hK hP hA hS (c_X11_best l D cI cL ad hJ sg0 tu0 (xs 1) ((xs 1).toInt) rfl jf_2_0 jf_16_0 jf_16_1 jf_47_0) cw_RL_69 (jc_0 cI cL ad sg0 tu0) rfl ⟨Nat.le_of_ble_eq_true rfl, Nat.le_of_ble_eq_true rfl⟩ rfl rfl rfl hl.1 rfl (Nat.le_of_ble_eq_true rfl) dL_law_611 ⟨Nat.le_of_ble_eq_true rfl, Nat.le_of_ble_eq_true rfl⟩ (fun r2 σ1 τ1 H locs h1 hP hS => ?_)
  obtain ⟨f3, qr2⟩ := h1
  refine lv_aload_n hx hb dL_law_614 rfl (lv_at hl 1 rfl) ?_
  refine lv_aload_n hx hb dL_law_615 rfl (lv_at hl 3 rfl) ?_
  refine lv_iload_n hx hb dL_law_616 rfl (lv_at hl 0 rfl) ?_
  refine lv_iconst (v := 1) hx hb dL_law_617 (by decide) ?_
  refine lv_iadd hx hb dL_law_618 ?_
  refine jtopr (y := 1) (by decide) ?_
  refine va_sld hx hb hX hbl hbA hS (jin jz_1 (by omega) (by omega)) dL_law_619 ?_
  refine jtopr (y := xs 1) rfl ?_
  have m4 : σ1 55 6 = 0 := (by rw [f3 55 (by omega)]; exact jf_55_6)
  have m5 : σ1 55 10 = 1 := (by rw [f3 55 (by omega)]; exact jf_55_10)
  have m6 : σ1 55 12 = 8 := (by rw [f3 55 (by omega)]; exact jf_55_12)
  have m7 : σ1 55 47 = 0 := (by rw [f3 55 (by omega)]; exact jf_55_47)
  refine jcallV (As := [.int (xs 1)]) (rest := [.int r2]) ⟨hx, hb, hml, hown, hts⟩ hK hP hA hS (c_X12_best l D cI cL ad hJ σ1 τ1 (xs 1) ((xs 1).toInt) rfl m4 m5 m6 m7) cw_RL_72 (jc_55 cI cL ad σ1 τ1) rfl ⟨Nat.le_of_ble_eq_true rfl, Nat.le_of_ble_eq_true rfl⟩ rfl rfl rfl hl.1 rfl (Nat.le_of_ble_eq_true rfl) dL_law_620 ⟨Nat.le_of_ble_eq_true rfl, Nat.le_of_ble_eq_true rfl⟩ (fun r9 σ8 τ8 H locs h8 hP hS => ?_)
  obtain ⟨-, qr9⟩ := h8
  refine lv_icmp_eq (tgt := 1358) hx hb dL_law_623 (by decide) (fun _ => ?_) (fun c => absurd (qr2.trans qr9.symm) c)
  refine lv_iinc (v := 6) (lv' := [(3, .int 6), (2, .ref (ad 55)), (1, .ref (ad 0)), (0, .ref b)]) hx hb dL_law_1358 hl (k := 0) rfl (by decide) (by decide) rfl (fun ls hl => ?_)
  refine lv_goto (tgt := 18) hx hb dL_law_1361 (by decide) ?_
  refine lv_iload_n hx hb dL_law_18 rfl (lv_at hl 0 rfl) ?_
  refine lv_aload_n hx hb dL_law_19 rfl (lv_at hl 3 rfl) ?_
  refine va_slen hx hb hX hbl hbA hS dL_law_20 ?_
  refine jtopr (y := 6) (by rw [hL6]; rfl) ?_
  refine lv_bipush (v := 6) hx hb dL_law_21 (by decide) ?_
  refine lv_isub hx hb dL_law_23 ?_
  refine jtopr (y := 0) (by decide) ?_
  refine lv_icmp_gt (tgt := 1364) hx hb dL_law_24 (by decide) (fun _ => ?_) (fun c => absurd (by decide) c)
  refine lv_iconst (v := 1) hx hb dL_law_1364 (by decide) ?_
  refine va_forget (fun q hq => hS.2.2 q hq) ?_
  refine W.widen (k := 600000) (n := 7302250) (Nat.le_of_ble_eq_true rfl) (Nat.le_of_ble_eq_true rfl) ?_
  exact lw_ret hx hb hr hlocks dL_law_1365
set_option maxHeartbeats 4000000 in
set_option maxRecDepth 100000 in
theorem law_case_14 {p : Program} {e : Env} {s : State} {m : MethodId} {below : List Frame} {meth : Method} {c : Code} (l : Launch) {b L : Nat} {xs : Nat → Int32} {D : va_G} {cI cL : ClassId} {ad : Nat → Nat} (C0 : lw_At p s m meth c b L xs) (hJ : jD ad) (hA : ∀ q, jA ad q → s.heap.size ≤ q) (hK : jK D cI cL s) (hL6 : L = 6) {H : Heap} {locs : List Loc} (hS : va_S (fun q : Nat => s.heap.size ≤ q) s.heap H locs) {ls : Array Slot} (hP : jH D cI cL ad sg0 tu0 H) (hl : lv_has ls 4 [(3, .int 0), (2, .ref (ad 55)), (1, .ref (ad 0)), (0, .ref b)]) : W p l e room_1 s m #[Value.ref b] below meth c H locs 90 348600 (lw_Z below #[Value.ref b] s) (F0 m 628 ls []) := by
  obtain ⟨hx, hb, hr, hml, hown, hts0, hX, hbl, hlocks, hgv⟩ := C0
  have hts : ∀ w ∈ wsL_law, w.before #[Value.ref b] s = true := fun w h => hts0 w (wsL_law_in w h)
  have hbA : ¬ (fun q : Nat => s.heap.size ≤ q) b := Nat.not_le.mpr hbl
  have hown : s.vm.findClass RL = some m.cls := hown
  refine lv_aload_n hx hb dL_law_628 rfl (lv_at hl 2 rfl) ?_
  refine lv_aload_n hx hb dL_law_629 rfl (lv_at hl 3 rfl) ?_
  refine lv_iload_n hx hb dL_law_630 rfl (lv_at hl 0 rfl) ?_
  refine lv_iconst (v := 1) hx hb dL_law_631 (by decide) ?_
  refine lv_iadd hx hb dL_law_632 ?_
  refine jtopr (y := 1) (by decide) ?_
  refine va_sld hx hb hX hbl hbA hS (jin jz_1 (by omega) (by omega)) dL_law_633 ?_
  refine jtopr (y := xs 1) rfl ?_
  refine lv_aload_n hx hb dL_law_634 rfl (lv_at hl 3 rfl) ?_
  refine lv_iload_n hx hb dL_law_635 rfl (lv_at hl 0 rfl) ?_
  refine lv_iconst (v := 2) hx hb dL_law_636 (by decide) ?_
  refine lv_iadd hx hb dL_law_637 ?_
  refine jtopr (y := 2) (by decide) ?_
  refine va_sld hx hb hX hbl hbA hS (jin jz_2 (by omega) (by omega)) dL_law_638 ?_
  refine jtopr (y := xs 2) rfl ?_
  refine jcallV (As := [.int (xs 1), .int (xs 2)]) (rest := []) ⟨hx, hb, hml, hown, hts⟩ hK hP hA hS (c_X11_worth l D cI cL ad hJ sg0 tu0 (xs 1) ((xs 1).toInt) rfl (xs 2) ((xs 2).toInt) rfl jf_2_0) cw_RL_73 (jc_0 cI cL ad sg0 tu0) rfl ⟨Nat.le_of_ble_eq_true rfl, Nat.le_of_ble_eq_true rfl⟩ rfl rfl rfl hl.1 rfl (Nat.le_of_ble_eq_true rfl) dL_law_639 ⟨Nat.le_of_ble_eq_true rfl, Nat.le_of_ble_eq_true rfl⟩ (fun r2 σ1 τ1 H locs h1 hP hS => ?_)
  obtain ⟨f3, qr2⟩ := h1
  refine lv_aload_n hx hb dL_law_642 rfl (lv_at hl 1 rfl) ?_
  refine lv_aload_n hx hb dL_law_643 rfl (lv_at hl 3 rfl) ?_
  refine lv_iload_n hx hb dL_law_644 rfl (lv_at hl 0 rfl) ?_
  refine lv_iconst (v := 1) hx hb dL_law_645 (by decide) ?_
  refine lv_iadd hx hb dL_law_646 ?_
  refine jtopr (y := 1) (by decide) ?_
  refine va_sld hx hb hX hbl hbA hS (jin jz_1 (by omega) (by omega)) dL_law_647 ?_
  refine jtopr (y := xs 1) rfl ?_
  refine lv_aload_n hx hb dL_law_648 rfl (lv_at hl 3 rfl) ?_
  refine lv_iload_n hx hb dL_law_649 rfl (lv_at hl 0 rfl) ?_
  refine lv_iconst (v := 2) hx hb dL_law_650 (by decide) ?_
  refine lv_iadd hx hb dL_law_651 ?_
  refine jtopr (y := 2) (by decide) ?_
  refine va_sld hx hb hX hbl hbA hS (jin jz_2 (by omega) (by omega)) dL_law_652 ?_
  refine jtopr (y := xs 2) rfl ?_
  have m4 : σ1 55 6 = 0 := (by rw [f3 55 (by omega)]; exact jf_55_6)
  refine jcallV (As := [.int (xs 1), .int (xs 2)]) (rest := [.int r2]) ⟨hx, hb, hml, hown, hts⟩ hK hP hA hS (c_X12_worth l D cI cL ad hJ σ1 τ1 (xs 1) ((xs 1).toInt) rfl (xs 2) ((xs 2).toInt) rfl m4) cw_RL_76 (jc_55 cI cL ad σ1 τ1) rfl ⟨Nat.le_of_ble_eq_true rfl, Nat.le_of_ble_eq_true rfl⟩ rfl rfl rfl hl.1 rfl (Nat.le_of_ble_eq_true rfl) dL_law_653 ⟨Nat.le_of_ble_eq_true rfl, Nat.le_of_ble_eq_true rfl⟩ (fun r6 σ5 τ5 H locs h5 hP hS => ?_)
  obtain ⟨-, qr6⟩ := h5
  refine lv_icmp_eq (tgt := 1358) hx hb dL_law_656 (by decide) (fun _ => ?_) (fun c => absurd (qr2.trans qr6.symm) c)
  refine lv_iinc (v := 6) (lv' := [(3, .int 6), (2, .ref (ad 55)), (1, .ref (ad 0)), (0, .ref b)]) hx hb dL_law_1358 hl (k := 0) rfl (by decide) (by decide) rfl (fun ls hl => ?_)
  refine lv_goto (tgt := 18) hx hb dL_law_1361 (by decide) ?_
  refine lv_iload_n hx hb dL_law_18 rfl (lv_at hl 0 rfl) ?_
  refine lv_aload_n hx hb dL_law_19 rfl (lv_at hl 3 rfl) ?_
  refine va_slen hx hb hX hbl hbA hS dL_law_20 ?_
  refine jtopr (y := 6) (by rw [hL6]; rfl) ?_
  refine lv_bipush (v := 6) hx hb dL_law_21 (by decide) ?_
  refine lv_isub hx hb dL_law_23 ?_
  refine jtopr (y := 0) (by decide) ?_
  refine lv_icmp_gt (tgt := 1364) hx hb dL_law_24 (by decide) (fun _ => ?_) (fun c => absurd (by decide) c)
  refine lv_iconst (v := 1) hx hb dL_law_1364 (by decide) ?_
  refine va_forget (fun q hq => hS.2.2 q hq) ?_
  refine W.widen (k := 600000) (n := 7302250) (Nat.le_of_ble_eq_true rfl) (Nat.le_of_ble_eq_true rfl) ?_
  exact lw_ret hx hb hr hlocks dL_law_1365
set_option maxHeartbeats 4000000 in
set_option maxRecDepth 100000 in
theorem law_case_15 {p : Program} {e : Env} {s : State} {m : MethodId} {below : List Frame} {meth : Method} {c : Code} (l : Launch) {b L : Nat} {xs : Nat → Int32} {D : va_G} {cI cL : ClassId} {ad : Nat → Nat} (C0 : lw_At p s m meth c b L xs) (hJ : jD ad) (hA : ∀ q, jA ad q → s.heap.size ≤ q) (hK : jK D cI cL s) (hL6 : L = 6) {H : Heap} {locs : List Loc} (hS : va_S (fun q : Nat => s.heap.size ≤ q) s.heap H locs) {ls : Array Slot} (hP : jH D cI cL ad sg0 tu0 H) (hl : lv_has ls 4 [(3, .int 0), (2, .ref (ad 55)), (1, .ref (ad 0)), (0, .ref b)]) : W p l e room_1 s m #[Value.ref b] below meth c H locs 90 348600 (lw_Z below #[Value.ref b] s) (F0 m 661 ls []) := by
  obtain ⟨hx, hb, hr, hml, hown, hts0, hX, hbl, hlocks, hgv⟩ := C0
  have hts : ∀ w ∈ wsL_law, w.before #[Value.ref b] s = true := fun w h => hts0 w (wsL_law_in w h)
  have hbA : ¬ (fun q : Nat => s.heap.size ≤ q) b := Nat.not_le.mpr hbl
  have hown : s.vm.findClass RL = some m.cls := hown
  refine lv_aload_n hx hb dL_law_661 rfl (lv_at hl 2 rfl) ?_
  refine lv_aload_n hx hb dL_law_662 rfl (lv_at hl 3 rfl) ?_
  refine lv_iload_n hx hb dL_law_663 rfl (lv_at hl 0 rfl) ?_
  refine lv_iconst (v := 1) hx hb dL_law_664 (by decide) ?_
  refine lv_iadd hx hb dL_law_665 ?_
  refine jtopr (y := 1) (by decide) ?_
  refine va_sld hx hb hX hbl hbA hS (jin jz_1 (by omega) (by omega)) dL_law_666 ?_
  refine jtopr (y := xs 1) rfl ?_
  refine lv_aload_n hx hb dL_law_667 rfl (lv_at hl 3 rfl) ?_
  refine lv_iload_n hx hb dL_law_668 rfl (lv_at hl 0 rfl) ?_
  refine lv_iconst (v := 2) hx hb dL_law_669 (by decide) ?_
  refine lv_iadd hx hb dL_law_670 ?_
  refine jtopr (y := 2) (by decide) ?_
  refine va_sld hx hb hX hbl hbA hS (jin jz_2 (by omega) (by omega)) dL_law_671 ?_
  refine jtopr (y := xs 2) rfl ?_
  refine jcallV (As := [.int (xs 1), .int (xs 2)]) (rest := []) ⟨hx, hb, hml, hown, hts⟩ hK hP hA hS (c_X11_fielded l D cI cL ad hJ sg0 tu0 (xs 1) ((xs 1).toInt) rfl (xs 2) ((xs 2).toInt) rfl jf_2_0 jf_16_0 jf_16_1 jf_22_1 jf_31_9 jfa_3 jfa_4 jfa_5 jfa_36) cw_RL_77 (jc_0 cI cL ad sg0 tu0) rfl ⟨Nat.le_of_ble_eq_true rfl, Nat.le_of_ble_eq_true rfl⟩ rfl rfl rfl hl.1 rfl (Nat.le_of_ble_eq_true rfl) dL_law_672 ⟨Nat.le_of_ble_eq_true rfl, Nat.le_of_ble_eq_true rfl⟩ (fun r2 σ1 τ1 H locs h1 hP hS => ?_)
  obtain ⟨f3, qr2⟩ := h1
  refine lv_aload_n hx hb dL_law_675 rfl (lv_at hl 1 rfl) ?_
  refine lv_aload_n hx hb dL_law_676 rfl (lv_at hl 3 rfl) ?_
  refine lv_iload_n hx hb dL_law_677 rfl (lv_at hl 0 rfl) ?_
  refine lv_iconst (v := 1) hx hb dL_law_678 (by decide) ?_
  refine lv_iadd hx hb dL_law_679 ?_
  refine jtopr (y := 1) (by decide) ?_
  refine va_sld hx hb hX hbl hbA hS (jin jz_1 (by omega) (by omega)) dL_law_680 ?_
  refine jtopr (y := xs 1) rfl ?_
  refine lv_aload_n hx hb dL_law_681 rfl (lv_at hl 3 rfl) ?_
  refine lv_iload_n hx hb dL_law_682 rfl (lv_at hl 0 rfl) ?_
  refine lv_iconst (v := 2) hx hb dL_law_683 (by decide) ?_
  refine lv_iadd hx hb dL_law_684 ?_
  refine jtopr (y := 2) (by decide) ?_
  refine va_sld hx hb hX hbl hbA hS (jin jz_2 (by omega) (by omega)) dL_law_685 ?_
  refine jtopr (y := xs 2) rfl ?_
  have m4 : σ1 55 6 = 0 := (by rw [f3 55 (by omega)]; exact jf_55_6)
  have m5 : σ1 55 9 = 0 := (by rw [f3 55 (by omega)]; exact jf_55_9)
  have m6 : σ1 55 10 = 1 := (by rw [f3 55 (by omega)]; exact jf_55_10)
  have m7 : σ1 55 12 = 8 := (by rw [f3 55 (by omega)]; exact jf_55_12)
  refine jcallV (As := [.int (xs 1), .int (xs 2)]) (rest := [.int r2]) ⟨hx, hb, hml, hown, hts⟩ hK hP hA hS (c_X12_fielded l D cI cL ad hJ σ1 τ1 (xs 1) ((xs 1).toInt) rfl (xs 2) ((xs 2).toInt) rfl m4 m5 m6 m7) cw_RL_80 (jc_55 cI cL ad σ1 τ1) rfl ⟨Nat.le_of_ble_eq_true rfl, Nat.le_of_ble_eq_true rfl⟩ rfl rfl rfl hl.1 rfl (Nat.le_of_ble_eq_true rfl) dL_law_686 ⟨Nat.le_of_ble_eq_true rfl, Nat.le_of_ble_eq_true rfl⟩ (fun r9 σ8 τ8 H locs h8 hP hS => ?_)
  obtain ⟨-, qr9⟩ := h8
  refine lv_icmp_eq (tgt := 1358) hx hb dL_law_689 (by decide) (fun _ => ?_) (fun c => absurd (qr2.trans qr9.symm) c)
  refine lv_iinc (v := 6) (lv' := [(3, .int 6), (2, .ref (ad 55)), (1, .ref (ad 0)), (0, .ref b)]) hx hb dL_law_1358 hl (k := 0) rfl (by decide) (by decide) rfl (fun ls hl => ?_)
  refine lv_goto (tgt := 18) hx hb dL_law_1361 (by decide) ?_
  refine lv_iload_n hx hb dL_law_18 rfl (lv_at hl 0 rfl) ?_
  refine lv_aload_n hx hb dL_law_19 rfl (lv_at hl 3 rfl) ?_
  refine va_slen hx hb hX hbl hbA hS dL_law_20 ?_
  refine jtopr (y := 6) (by rw [hL6]; rfl) ?_
  refine lv_bipush (v := 6) hx hb dL_law_21 (by decide) ?_
  refine lv_isub hx hb dL_law_23 ?_
  refine jtopr (y := 0) (by decide) ?_
  refine lv_icmp_gt (tgt := 1364) hx hb dL_law_24 (by decide) (fun _ => ?_) (fun c => absurd (by decide) c)
  refine lv_iconst (v := 1) hx hb dL_law_1364 (by decide) ?_
  refine va_forget (fun q hq => hS.2.2 q hq) ?_
  refine W.widen (k := 600000) (n := 7302250) (Nat.le_of_ble_eq_true rfl) (Nat.le_of_ble_eq_true rfl) ?_
  exact lw_ret hx hb hr hlocks dL_law_1365
set_option maxHeartbeats 4000000 in
set_option maxRecDepth 100000 in
theorem law_case_16 {p : Program} {e : Env} {s : State} {m : MethodId} {below : List Frame} {meth : Method} {c : Code} (l : Launch) {b L : Nat} {xs : Nat → Int32} {D : va_G} {cI cL : ClassId} {ad : Nat → Nat} (C0 : lw_At p s m meth c b L xs) (hJ : jD ad) (hA : ∀ q, jA ad q → s.heap.size ≤ q) (hK : jK D cI cL s) (hL6 : L = 6) {H : Heap} {locs : List Loc} (hS : va_S (fun q : Nat => s.heap.size ≤ q) s.heap H locs) {ls : Array Slot} (hP : jH D cI cL ad sg0 tu0 H) (hl : lv_has ls 4 [(3, .int 0), (2, .ref (ad 55)), (1, .ref (ad 0)), (0, .ref b)]) : W p l e room_1 s m #[Value.ref b] below meth c H locs 90 348600 (lw_Z below #[Value.ref b] s) (F0 m 694 ls []) := by
  obtain ⟨hx, hb, hr, hml, hown, hts0, hX, hbl, hlocks, hgv⟩ := C0
  have hts : ∀ w ∈ wsL_law, w.before #[Value.ref b] s = true := fun w h => hts0 w (wsL_law_in w h)
  have hbA : ¬ (fun q : Nat => s.heap.size ≤ q) b := Nat.not_le.mpr hbl
  have hown : s.vm.findClass RL = some m.cls := hown
  refine lv_aload_n hx hb dL_law_694 rfl (lv_at hl 2 rfl) ?_
  refine lv_aload_n hx hb dL_law_695 rfl (lv_at hl 3 rfl) ?_
  refine lv_iload_n hx hb dL_law_696 rfl (lv_at hl 0 rfl) ?_
  refine lv_iconst (v := 1) hx hb dL_law_697 (by decide) ?_
  refine lv_iadd hx hb dL_law_698 ?_
  refine jtopr (y := 1) (by decide) ?_
  refine va_sld hx hb hX hbl hbA hS (jin jz_1 (by omega) (by omega)) dL_law_699 ?_
  refine jtopr (y := xs 1) rfl ?_
  refine jcallV (As := [.int (xs 1)]) (rest := []) ⟨hx, hb, hml, hown, hts⟩ hK hP hA hS (c_X11_kept l D cI cL ad hJ sg0 tu0 (xs 1) ((xs 1).toInt) rfl jf_2_0) cw_RL_81 (jc_0 cI cL ad sg0 tu0) rfl ⟨Nat.le_of_ble_eq_true rfl, Nat.le_of_ble_eq_true rfl⟩ rfl rfl rfl hl.1 rfl (Nat.le_of_ble_eq_true rfl) dL_law_700 ⟨Nat.le_of_ble_eq_true rfl, Nat.le_of_ble_eq_true rfl⟩ (fun r2 σ1 τ1 H locs h1 hP hS => ?_)
  obtain ⟨f3, qr2⟩ := h1
  refine lv_aload_n hx hb dL_law_703 rfl (lv_at hl 1 rfl) ?_
  refine lv_aload_n hx hb dL_law_704 rfl (lv_at hl 3 rfl) ?_
  refine lv_iload_n hx hb dL_law_705 rfl (lv_at hl 0 rfl) ?_
  refine lv_iconst (v := 1) hx hb dL_law_706 (by decide) ?_
  refine lv_iadd hx hb dL_law_707 ?_
  refine jtopr (y := 1) (by decide) ?_
  refine va_sld hx hb hX hbl hbA hS (jin jz_1 (by omega) (by omega)) dL_law_708 ?_
  refine jtopr (y := xs 1) rfl ?_
  have m4 : σ1 55 6 = 0 := (by rw [f3 55 (by omega)]; exact jf_55_6)
  refine jcallV (As := [.int (xs 1)]) (rest := [.int r2]) ⟨hx, hb, hml, hown, hts⟩ hK hP hA hS (c_X12_kept l D cI cL ad hJ σ1 τ1 (xs 1) ((xs 1).toInt) rfl m4) cw_RL_84 (jc_55 cI cL ad σ1 τ1) rfl ⟨Nat.le_of_ble_eq_true rfl, Nat.le_of_ble_eq_true rfl⟩ rfl rfl rfl hl.1 rfl (Nat.le_of_ble_eq_true rfl) dL_law_709 ⟨Nat.le_of_ble_eq_true rfl, Nat.le_of_ble_eq_true rfl⟩ (fun r6 σ5 τ5 H locs h5 hP hS => ?_)
  obtain ⟨-, qr6⟩ := h5
  refine lv_icmp_eq (tgt := 1358) hx hb dL_law_712 (by decide) (fun _ => ?_) (fun c => absurd (qr2.trans qr6.symm) c)
  refine lv_iinc (v := 6) (lv' := [(3, .int 6), (2, .ref (ad 55)), (1, .ref (ad 0)), (0, .ref b)]) hx hb dL_law_1358 hl (k := 0) rfl (by decide) (by decide) rfl (fun ls hl => ?_)
  refine lv_goto (tgt := 18) hx hb dL_law_1361 (by decide) ?_
  refine lv_iload_n hx hb dL_law_18 rfl (lv_at hl 0 rfl) ?_
  refine lv_aload_n hx hb dL_law_19 rfl (lv_at hl 3 rfl) ?_
  refine va_slen hx hb hX hbl hbA hS dL_law_20 ?_
  refine jtopr (y := 6) (by rw [hL6]; rfl) ?_
  refine lv_bipush (v := 6) hx hb dL_law_21 (by decide) ?_
  refine lv_isub hx hb dL_law_23 ?_
  refine jtopr (y := 0) (by decide) ?_
  refine lv_icmp_gt (tgt := 1364) hx hb dL_law_24 (by decide) (fun _ => ?_) (fun c => absurd (by decide) c)
  refine lv_iconst (v := 1) hx hb dL_law_1364 (by decide) ?_
  refine va_forget (fun q hq => hS.2.2 q hq) ?_
  refine W.widen (k := 600000) (n := 7302250) (Nat.le_of_ble_eq_true rfl) (Nat.le_of_ble_eq_true rfl) ?_
  exact lw_ret hx hb hr hlocks dL_law_1365
set_option maxHeartbeats 4000000 in
set_option maxRecDepth 100000 in
theorem law_case_17 {p : Program} {e : Env} {s : State} {m : MethodId} {below : List Frame} {meth : Method} {c : Code} (l : Launch) {b L : Nat} {xs : Nat → Int32} {D : va_G} {cI cL : ClassId} {ad : Nat → Nat} (C0 : lw_At p s m meth c b L xs) (hJ : jD ad) (hA : ∀ q, jA ad q → s.heap.size ≤ q) (hK : jK D cI cL s) (hL6 : L = 6) {H : Heap} {locs : List Loc} (hS : va_S (fun q : Nat => s.heap.size ≤ q) s.heap H locs) {ls : Array Slot} (hP : jH D cI cL ad sg0 tu0 H) (hl : lv_has ls 4 [(3, .int 0), (2, .ref (ad 55)), (1, .ref (ad 0)), (0, .ref b)]) : W p l e room_1 s m #[Value.ref b] below meth c H locs 90 348600 (lw_Z below #[Value.ref b] s) (F0 m 717 ls []) := by
  obtain ⟨hx, hb, hr, hml, hown, hts0, hX, hbl, hlocks, hgv⟩ := C0
  have hts : ∀ w ∈ wsL_law, w.before #[Value.ref b] s = true := fun w h => hts0 w (wsL_law_in w h)
  have hbA : ¬ (fun q : Nat => s.heap.size ≤ q) b := Nat.not_le.mpr hbl
  have hown : s.vm.findClass RL = some m.cls := hown
  refine lv_aload_n hx hb dL_law_717 rfl (lv_at hl 2 rfl) ?_
  refine lv_aload_n hx hb dL_law_718 rfl (lv_at hl 3 rfl) ?_
  refine lv_iload_n hx hb dL_law_719 rfl (lv_at hl 0 rfl) ?_
  refine lv_iconst (v := 1) hx hb dL_law_720 (by decide) ?_
  refine lv_iadd hx hb dL_law_721 ?_
  refine jtopr (y := 1) (by decide) ?_
  refine va_sld hx hb hX hbl hbA hS (jin jz_1 (by omega) (by omega)) dL_law_722 ?_
  refine jtopr (y := xs 1) rfl ?_
  refine jcallV (As := [.int (xs 1)]) (rest := []) ⟨hx, hb, hml, hown, hts⟩ hK hP hA hS (c_X11_theirs l D cI cL ad hJ sg0 tu0 (xs 1) ((xs 1).toInt) rfl jf_2_0 jf_2_1 jf_16_0 jf_16_1 jf_22_1 jf_31_9 jfa_3 jfa_4 jfa_5 jfa_17 jfa_36) cw_RL_85 (jc_0 cI cL ad sg0 tu0) rfl ⟨Nat.le_of_ble_eq_true rfl, Nat.le_of_ble_eq_true rfl⟩ rfl rfl rfl hl.1 rfl (Nat.le_of_ble_eq_true rfl) dL_law_723 ⟨Nat.le_of_ble_eq_true rfl, Nat.le_of_ble_eq_true rfl⟩ (fun r2 σ1 τ1 H locs h1 hP hS => ?_)
  obtain ⟨f3, qr2⟩ := h1
  refine lv_aload_n hx hb dL_law_726 rfl (lv_at hl 1 rfl) ?_
  refine lv_aload_n hx hb dL_law_727 rfl (lv_at hl 3 rfl) ?_
  refine lv_iload_n hx hb dL_law_728 rfl (lv_at hl 0 rfl) ?_
  refine lv_iconst (v := 1) hx hb dL_law_729 (by decide) ?_
  refine lv_iadd hx hb dL_law_730 ?_
  refine jtopr (y := 1) (by decide) ?_
  refine va_sld hx hb hX hbl hbA hS (jin jz_1 (by omega) (by omega)) dL_law_731 ?_
  refine jtopr (y := xs 1) rfl ?_
  have m4 : σ1 55 6 = 0 := (by rw [f3 55 (by omega)]; exact jf_55_6)
  have m5 : σ1 55 10 = 1 := (by rw [f3 55 (by omega)]; exact jf_55_10)
  have m6 : σ1 55 12 = 8 := (by rw [f3 55 (by omega)]; exact jf_55_12)
  have m7 : ∀ k : Nat, σ1 62 k = 0 := (by rw [f3 62 (by omega)]; exact jfa_62)
  refine jcallV (As := [.int (xs 1)]) (rest := [.int r2]) ⟨hx, hb, hml, hown, hts⟩ hK hP hA hS (c_X12_theirs l D cI cL ad hJ σ1 τ1 (xs 1) ((xs 1).toInt) rfl m4 m5 m6 m7) cw_RL_88 (jc_55 cI cL ad σ1 τ1) rfl ⟨Nat.le_of_ble_eq_true rfl, Nat.le_of_ble_eq_true rfl⟩ rfl rfl rfl hl.1 rfl (Nat.le_of_ble_eq_true rfl) dL_law_732 ⟨Nat.le_of_ble_eq_true rfl, Nat.le_of_ble_eq_true rfl⟩ (fun r9 σ8 τ8 H locs h8 hP hS => ?_)
  obtain ⟨-, qr9⟩ := h8
  refine lv_icmp_eq (tgt := 1358) hx hb dL_law_735 (by decide) (fun _ => ?_) (fun c => absurd (qr2.trans qr9.symm) c)
  refine lv_iinc (v := 6) (lv' := [(3, .int 6), (2, .ref (ad 55)), (1, .ref (ad 0)), (0, .ref b)]) hx hb dL_law_1358 hl (k := 0) rfl (by decide) (by decide) rfl (fun ls hl => ?_)
  refine lv_goto (tgt := 18) hx hb dL_law_1361 (by decide) ?_
  refine lv_iload_n hx hb dL_law_18 rfl (lv_at hl 0 rfl) ?_
  refine lv_aload_n hx hb dL_law_19 rfl (lv_at hl 3 rfl) ?_
  refine va_slen hx hb hX hbl hbA hS dL_law_20 ?_
  refine jtopr (y := 6) (by rw [hL6]; rfl) ?_
  refine lv_bipush (v := 6) hx hb dL_law_21 (by decide) ?_
  refine lv_isub hx hb dL_law_23 ?_
  refine jtopr (y := 0) (by decide) ?_
  refine lv_icmp_gt (tgt := 1364) hx hb dL_law_24 (by decide) (fun _ => ?_) (fun c => absurd (by decide) c)
  refine lv_iconst (v := 1) hx hb dL_law_1364 (by decide) ?_
  refine va_forget (fun q hq => hS.2.2 q hq) ?_
  refine W.widen (k := 600000) (n := 7302250) (Nat.le_of_ble_eq_true rfl) (Nat.le_of_ble_eq_true rfl) ?_
  exact lw_ret hx hb hr hlocks dL_law_1365
set_option maxHeartbeats 4000000 in
set_option maxRecDepth 100000 in
theorem law_case_18 {p : Program} {e : Env} {s : State} {m : MethodId} {below : List Frame} {meth : Method} {c : Code} (l : Launch) {b L : Nat} {xs : Nat → Int32} {D : va_G} {cI cL : ClassId} {ad : Nat → Nat} (C0 : lw_At p s m meth c b L xs) (hJ : jD ad) (hA : ∀ q, jA ad q → s.heap.size ≤ q) (hK : jK D cI cL s) (hL6 : L = 6) {H : Heap} {locs : List Loc} (hS : va_S (fun q : Nat => s.heap.size ≤ q) s.heap H locs) {ls : Array Slot} (hP : jH D cI cL ad sg0 tu0 H) (hl : lv_has ls 4 [(3, .int 0), (2, .ref (ad 55)), (1, .ref (ad 0)), (0, .ref b)]) : W p l e room_1 s m #[Value.ref b] below meth c H locs 90 348600 (lw_Z below #[Value.ref b] s) (F0 m 740 ls []) := by
  obtain ⟨hx, hb, hr, hml, hown, hts0, hX, hbl, hlocks, hgv⟩ := C0
  have hts : ∀ w ∈ wsL_law, w.before #[Value.ref b] s = true := fun w h => hts0 w (wsL_law_in w h)
  have hbA : ¬ (fun q : Nat => s.heap.size ≤ q) b := Nat.not_le.mpr hbl
  have hown : s.vm.findClass RL = some m.cls := hown
  refine lv_aload_n hx hb dL_law_740 rfl (lv_at hl 2 rfl) ?_
  refine lv_aload_n hx hb dL_law_741 rfl (lv_at hl 3 rfl) ?_
  refine lv_iload_n hx hb dL_law_742 rfl (lv_at hl 0 rfl) ?_
  refine lv_iconst (v := 1) hx hb dL_law_743 (by decide) ?_
  refine lv_iadd hx hb dL_law_744 ?_
  refine jtopr (y := 1) (by decide) ?_
  refine va_sld hx hb hX hbl hbA hS (jin jz_1 (by omega) (by omega)) dL_law_745 ?_
  refine jtopr (y := xs 1) rfl ?_
  refine lv_aload_n hx hb dL_law_746 rfl (lv_at hl 3 rfl) ?_
  refine lv_iload_n hx hb dL_law_747 rfl (lv_at hl 0 rfl) ?_
  refine lv_iconst (v := 2) hx hb dL_law_748 (by decide) ?_
  refine lv_iadd hx hb dL_law_749 ?_
  refine jtopr (y := 2) (by decide) ?_
  refine va_sld hx hb hX hbl hbA hS (jin jz_2 (by omega) (by omega)) dL_law_750 ?_
  refine jtopr (y := xs 2) rfl ?_
  refine jcallV (As := [.int (xs 1), .int (xs 2)]) (rest := []) ⟨hx, hb, hml, hown, hts⟩ hK hP hA hS (c_X11_learn l D cI cL ad hJ sg0 tu0 (xs 1) ((xs 1).toInt) rfl (xs 2) ((xs 2).toInt) rfl jf_2_0) cw_RL_89 (jc_0 cI cL ad sg0 tu0) rfl ⟨Nat.le_of_ble_eq_true rfl, Nat.le_of_ble_eq_true rfl⟩ rfl rfl rfl hl.1 rfl (Nat.le_of_ble_eq_true rfl) dL_law_751 ⟨Nat.le_of_ble_eq_true rfl, Nat.le_of_ble_eq_true rfl⟩ (fun r2 σ1 τ1 H locs h1 hP hS => ?_)
  obtain ⟨f3, qr2⟩ := h1
  refine lv_aload_n hx hb dL_law_754 rfl (lv_at hl 1 rfl) ?_
  refine lv_aload_n hx hb dL_law_755 rfl (lv_at hl 3 rfl) ?_
  refine lv_iload_n hx hb dL_law_756 rfl (lv_at hl 0 rfl) ?_
  refine lv_iconst (v := 1) hx hb dL_law_757 (by decide) ?_
  refine lv_iadd hx hb dL_law_758 ?_
  refine jtopr (y := 1) (by decide) ?_
  refine va_sld hx hb hX hbl hbA hS (jin jz_1 (by omega) (by omega)) dL_law_759 ?_
  refine jtopr (y := xs 1) rfl ?_
  refine lv_aload_n hx hb dL_law_760 rfl (lv_at hl 3 rfl) ?_
  refine lv_iload_n hx hb dL_law_761 rfl (lv_at hl 0 rfl) ?_
  refine lv_iconst (v := 2) hx hb dL_law_762 (by decide) ?_
  refine lv_iadd hx hb dL_law_763 ?_
  refine jtopr (y := 2) (by decide) ?_
  refine va_sld hx hb hX hbl hbA hS (jin jz_2 (by omega) (by omega)) dL_law_764 ?_
  refine jtopr (y := xs 2) rfl ?_
  have m4 : σ1 55 6 = 0 := (by rw [f3 55 (by omega)]; exact jf_55_6)
  refine jcallV (As := [.int (xs 1), .int (xs 2)]) (rest := [.int r2]) ⟨hx, hb, hml, hown, hts⟩ hK hP hA hS (c_X12_learn l D cI cL ad hJ σ1 τ1 (xs 1) ((xs 1).toInt) rfl (xs 2) ((xs 2).toInt) rfl m4) cw_RL_92 (jc_55 cI cL ad σ1 τ1) rfl ⟨Nat.le_of_ble_eq_true rfl, Nat.le_of_ble_eq_true rfl⟩ rfl rfl rfl hl.1 rfl (Nat.le_of_ble_eq_true rfl) dL_law_765 ⟨Nat.le_of_ble_eq_true rfl, Nat.le_of_ble_eq_true rfl⟩ (fun r6 σ5 τ5 H locs h5 hP hS => ?_)
  obtain ⟨-, qr6⟩ := h5
  refine lv_icmp_eq (tgt := 1358) hx hb dL_law_768 (by decide) (fun _ => ?_) (fun c => absurd (qr2.trans qr6.symm) c)
  refine lv_iinc (v := 6) (lv' := [(3, .int 6), (2, .ref (ad 55)), (1, .ref (ad 0)), (0, .ref b)]) hx hb dL_law_1358 hl (k := 0) rfl (by decide) (by decide) rfl (fun ls hl => ?_)
  refine lv_goto (tgt := 18) hx hb dL_law_1361 (by decide) ?_
  refine lv_iload_n hx hb dL_law_18 rfl (lv_at hl 0 rfl) ?_
  refine lv_aload_n hx hb dL_law_19 rfl (lv_at hl 3 rfl) ?_
  refine va_slen hx hb hX hbl hbA hS dL_law_20 ?_
  refine jtopr (y := 6) (by rw [hL6]; rfl) ?_
  refine lv_bipush (v := 6) hx hb dL_law_21 (by decide) ?_
  refine lv_isub hx hb dL_law_23 ?_
  refine jtopr (y := 0) (by decide) ?_
  refine lv_icmp_gt (tgt := 1364) hx hb dL_law_24 (by decide) (fun _ => ?_) (fun c => absurd (by decide) c)
  refine lv_iconst (v := 1) hx hb dL_law_1364 (by decide) ?_
  refine va_forget (fun q hq => hS.2.2 q hq) ?_
  refine W.widen (k := 600000) (n := 7302250) (Nat.le_of_ble_eq_true rfl) (Nat.le_of_ble_eq_true rfl) ?_
  exact lw_ret hx hb hr hlocks dL_law_1365
set_option maxHeartbeats 4000000 in
set_option maxRecDepth 100000 in
theorem law_case_19 {p : Program} {e : Env} {s : State} {m : MethodId} {below : List Frame} {meth : Method} {c : Code} (l : Launch) {b L : Nat} {xs : Nat → Int32} {D : va_G} {cI cL : ClassId} {ad : Nat → Nat} (C0 : lw_At p s m meth c b L xs) (hJ : jD ad) (hA : ∀ q, jA ad q → s.heap.size ≤ q) (hK : jK D cI cL s) (hL6 : L = 6) {H : Heap} {locs : List Loc} (hS : va_S (fun q : Nat => s.heap.size ≤ q) s.heap H locs) {ls : Array Slot} (hP : jH D cI cL ad sg0 tu0 H) (hl : lv_has ls 4 [(3, .int 0), (2, .ref (ad 55)), (1, .ref (ad 0)), (0, .ref b)]) : W p l e room_1 s m #[Value.ref b] below meth c H locs 90 348600 (lw_Z below #[Value.ref b] s) (F0 m 773 ls []) := by
  obtain ⟨hx, hb, hr, hml, hown, hts0, hX, hbl, hlocks, hgv⟩ := C0
  have hts : ∀ w ∈ wsL_law, w.before #[Value.ref b] s = true := fun w h => hts0 w (wsL_law_in w h)
  have hbA : ¬ (fun q : Nat => s.heap.size ≤ q) b := Nat.not_le.mpr hbl
  have hown : s.vm.findClass RL = some m.cls := hown
  refine lv_aload_n hx hb dL_law_773 rfl (lv_at hl 2 rfl) ?_
  refine lv_aload_n hx hb dL_law_774 rfl (lv_at hl 3 rfl) ?_
  refine lv_iload_n hx hb dL_law_775 rfl (lv_at hl 0 rfl) ?_
  refine lv_iconst (v := 1) hx hb dL_law_776 (by decide) ?_
  refine lv_iadd hx hb dL_law_777 ?_
  refine jtopr (y := 1) (by decide) ?_
  refine va_sld hx hb hX hbl hbA hS (jin jz_1 (by omega) (by omega)) dL_law_778 ?_
  refine jtopr (y := xs 1) rfl ?_
  refine lv_aload_n hx hb dL_law_779 rfl (lv_at hl 3 rfl) ?_
  refine lv_iload_n hx hb dL_law_780 rfl (lv_at hl 0 rfl) ?_
  refine lv_iconst (v := 2) hx hb dL_law_781 (by decide) ?_
  refine lv_iadd hx hb dL_law_782 ?_
  refine jtopr (y := 2) (by decide) ?_
  refine va_sld hx hb hX hbl hbA hS (jin jz_2 (by omega) (by omega)) dL_law_783 ?_
  refine jtopr (y := xs 2) rfl ?_
  refine jcallV (As := [.int (xs 1), .int (xs 2)]) (rest := []) ⟨hx, hb, hml, hown, hts⟩ hK hP hA hS (c_X11_book l D cI cL ad hJ sg0 tu0 (xs 1) ((xs 1).toInt) rfl (xs 2) ((xs 2).toInt) rfl jf_2_0) cw_RL_93 (jc_0 cI cL ad sg0 tu0) rfl ⟨Nat.le_of_ble_eq_true rfl, Nat.le_of_ble_eq_true rfl⟩ rfl rfl rfl hl.1 rfl (Nat.le_of_ble_eq_true rfl) dL_law_784 ⟨Nat.le_of_ble_eq_true rfl, Nat.le_of_ble_eq_true rfl⟩ (fun r2 σ1 τ1 H locs h1 hP hS => ?_)
  obtain ⟨f3, qr2⟩ := h1
  refine lv_aload_n hx hb dL_law_787 rfl (lv_at hl 1 rfl) ?_
  refine lv_aload_n hx hb dL_law_788 rfl (lv_at hl 3 rfl) ?_
  refine lv_iload_n hx hb dL_law_789 rfl (lv_at hl 0 rfl) ?_
  refine lv_iconst (v := 1) hx hb dL_law_790 (by decide) ?_
  refine lv_iadd hx hb dL_law_791 ?_
  refine jtopr (y := 1) (by decide) ?_
  refine va_sld hx hb hX hbl hbA hS (jin jz_1 (by omega) (by omega)) dL_law_792 ?_
  refine jtopr (y := xs 1) rfl ?_
  refine lv_aload_n hx hb dL_law_793 rfl (lv_at hl 3 rfl) ?_
  refine lv_iload_n hx hb dL_law_794 rfl (lv_at hl 0 rfl) ?_
  refine lv_iconst (v := 2) hx hb dL_law_795 (by decide) ?_
  refine lv_iadd hx hb dL_law_796 ?_
  refine jtopr (y := 2) (by decide) ?_
  refine va_sld hx hb hX hbl hbA hS (jin jz_2 (by omega) (by omega)) dL_law_797 ?_
  refine jtopr (y := xs 2) rfl ?_
  have m4 : σ1 55 6 = 0 := (by rw [f3 55 (by omega)]; exact jf_55_6)
  refine jcallV (As := [.int (xs 1), .int (xs 2)]) (rest := [.int r2]) ⟨hx, hb, hml, hown, hts⟩ hK hP hA hS (c_X12_book l D cI cL ad hJ σ1 τ1 (xs 1) ((xs 1).toInt) rfl (xs 2) ((xs 2).toInt) rfl m4) cw_RL_96 (jc_55 cI cL ad σ1 τ1) rfl ⟨Nat.le_of_ble_eq_true rfl, Nat.le_of_ble_eq_true rfl⟩ rfl rfl rfl hl.1 rfl (Nat.le_of_ble_eq_true rfl) dL_law_798 ⟨Nat.le_of_ble_eq_true rfl, Nat.le_of_ble_eq_true rfl⟩ (fun r6 σ5 τ5 H locs h5 hP hS => ?_)
  obtain ⟨-, qr6⟩ := h5
  refine lv_icmp_eq (tgt := 1358) hx hb dL_law_801 (by decide) (fun _ => ?_) (fun c => absurd (qr2.trans qr6.symm) c)
  refine lv_iinc (v := 6) (lv' := [(3, .int 6), (2, .ref (ad 55)), (1, .ref (ad 0)), (0, .ref b)]) hx hb dL_law_1358 hl (k := 0) rfl (by decide) (by decide) rfl (fun ls hl => ?_)
  refine lv_goto (tgt := 18) hx hb dL_law_1361 (by decide) ?_
  refine lv_iload_n hx hb dL_law_18 rfl (lv_at hl 0 rfl) ?_
  refine lv_aload_n hx hb dL_law_19 rfl (lv_at hl 3 rfl) ?_
  refine va_slen hx hb hX hbl hbA hS dL_law_20 ?_
  refine jtopr (y := 6) (by rw [hL6]; rfl) ?_
  refine lv_bipush (v := 6) hx hb dL_law_21 (by decide) ?_
  refine lv_isub hx hb dL_law_23 ?_
  refine jtopr (y := 0) (by decide) ?_
  refine lv_icmp_gt (tgt := 1364) hx hb dL_law_24 (by decide) (fun _ => ?_) (fun c => absurd (by decide) c)
  refine lv_iconst (v := 1) hx hb dL_law_1364 (by decide) ?_
  refine va_forget (fun q hq => hS.2.2 q hq) ?_
  refine W.widen (k := 600000) (n := 7302250) (Nat.le_of_ble_eq_true rfl) (Nat.le_of_ble_eq_true rfl) ?_
  exact lw_ret hx hb hr hlocks dL_law_1365
set_option maxHeartbeats 4000000 in
set_option maxRecDepth 100000 in
theorem law_case_20 {p : Program} {e : Env} {s : State} {m : MethodId} {below : List Frame} {meth : Method} {c : Code} (l : Launch) {b L : Nat} {xs : Nat → Int32} {D : va_G} {cI cL : ClassId} {ad : Nat → Nat} (C0 : lw_At p s m meth c b L xs) (hJ : jD ad) (hA : ∀ q, jA ad q → s.heap.size ≤ q) (hK : jK D cI cL s) (hL6 : L = 6) {H : Heap} {locs : List Loc} (hS : va_S (fun q : Nat => s.heap.size ≤ q) s.heap H locs) {ls : Array Slot} (hP : jH D cI cL ad sg0 tu0 H) (hl : lv_has ls 4 [(3, .int 0), (2, .ref (ad 55)), (1, .ref (ad 0)), (0, .ref b)]) : W p l e room_1 s m #[Value.ref b] below meth c H locs 90 348600 (lw_Z below #[Value.ref b] s) (F0 m 806 ls []) := by
  obtain ⟨hx, hb, hr, hml, hown, hts0, hX, hbl, hlocks, hgv⟩ := C0
  have hts : ∀ w ∈ wsL_law, w.before #[Value.ref b] s = true := fun w h => hts0 w (wsL_law_in w h)
  have hbA : ¬ (fun q : Nat => s.heap.size ≤ q) b := Nat.not_le.mpr hbl
  have hown : s.vm.findClass RL = some m.cls := hown
  refine lv_aload_n hx hb dL_law_806 rfl (lv_at hl 2 rfl) ?_
  refine lv_aload_n hx hb dL_law_807 rfl (lv_at hl 3 rfl) ?_
  refine lv_iload_n hx hb dL_law_808 rfl (lv_at hl 0 rfl) ?_
  refine lv_iconst (v := 1) hx hb dL_law_809 (by decide) ?_
  refine lv_iadd hx hb dL_law_810 ?_
  refine jtopr (y := 1) (by decide) ?_
  refine va_sld hx hb hX hbl hbA hS (jin jz_1 (by omega) (by omega)) dL_law_811 ?_
  refine jtopr (y := xs 1) rfl ?_
  refine lv_aload_n hx hb dL_law_812 rfl (lv_at hl 3 rfl) ?_
  refine lv_iload_n hx hb dL_law_813 rfl (lv_at hl 0 rfl) ?_
  refine lv_iconst (v := 2) hx hb dL_law_814 (by decide) ?_
  refine lv_iadd hx hb dL_law_815 ?_
  refine jtopr (y := 2) (by decide) ?_
  refine va_sld hx hb hX hbl hbA hS (jin jz_2 (by omega) (by omega)) dL_law_816 ?_
  refine jtopr (y := xs 2) rfl ?_
  refine jcallV (As := [.int (xs 1), .int (xs 2)]) (rest := []) ⟨hx, hb, hml, hown, hts⟩ hK hP hA hS (c_X11_books l D cI cL ad hJ sg0 tu0 (xs 1) ((xs 1).toInt) rfl (xs 2) ((xs 2).toInt) rfl jfa_51) cw_RL_97 (jc_0 cI cL ad sg0 tu0) rfl ⟨Nat.le_of_ble_eq_true rfl, Nat.le_of_ble_eq_true rfl⟩ rfl rfl rfl hl.1 rfl (Nat.le_of_ble_eq_true rfl) dL_law_817 ⟨Nat.le_of_ble_eq_true rfl, Nat.le_of_ble_eq_true rfl⟩ (fun r2 σ1 τ1 H locs h1 hP hS => ?_)
  obtain ⟨f3, qr2⟩ := h1
  refine lv_aload_n hx hb dL_law_820 rfl (lv_at hl 1 rfl) ?_
  refine lv_aload_n hx hb dL_law_821 rfl (lv_at hl 3 rfl) ?_
  refine lv_iload_n hx hb dL_law_822 rfl (lv_at hl 0 rfl) ?_
  refine lv_iconst (v := 1) hx hb dL_law_823 (by decide) ?_
  refine lv_iadd hx hb dL_law_824 ?_
  refine jtopr (y := 1) (by decide) ?_
  refine va_sld hx hb hX hbl hbA hS (jin jz_1 (by omega) (by omega)) dL_law_825 ?_
  refine jtopr (y := xs 1) rfl ?_
  refine lv_aload_n hx hb dL_law_826 rfl (lv_at hl 3 rfl) ?_
  refine lv_iload_n hx hb dL_law_827 rfl (lv_at hl 0 rfl) ?_
  refine lv_iconst (v := 2) hx hb dL_law_828 (by decide) ?_
  refine lv_iadd hx hb dL_law_829 ?_
  refine jtopr (y := 2) (by decide) ?_
  refine va_sld hx hb hX hbl hbA hS (jin jz_2 (by omega) (by omega)) dL_law_830 ?_
  refine jtopr (y := xs 2) rfl ?_
  have m4 : ∀ k : Nat, k < 6 → σ1 86 k = (-1) := (by rw [f3 86 (by omega)]; exact jfa_86)
  refine jcallV (As := [.int (xs 1), .int (xs 2)]) (rest := [.int r2]) ⟨hx, hb, hml, hown, hts⟩ hK hP hA hS (c_X12_books l D cI cL ad hJ σ1 τ1 (xs 1) ((xs 1).toInt) rfl (xs 2) ((xs 2).toInt) rfl m4) cw_RL_100 (jc_55 cI cL ad σ1 τ1) rfl ⟨Nat.le_of_ble_eq_true rfl, Nat.le_of_ble_eq_true rfl⟩ rfl rfl rfl hl.1 rfl (Nat.le_of_ble_eq_true rfl) dL_law_831 ⟨Nat.le_of_ble_eq_true rfl, Nat.le_of_ble_eq_true rfl⟩ (fun r6 σ5 τ5 H locs h5 hP hS => ?_)
  obtain ⟨-, qr6⟩ := h5
  refine lv_icmp_eq (tgt := 1358) hx hb dL_law_834 (by decide) (fun _ => ?_) (fun c => absurd (qr2.trans qr6.symm) c)
  refine lv_iinc (v := 6) (lv' := [(3, .int 6), (2, .ref (ad 55)), (1, .ref (ad 0)), (0, .ref b)]) hx hb dL_law_1358 hl (k := 0) rfl (by decide) (by decide) rfl (fun ls hl => ?_)
  refine lv_goto (tgt := 18) hx hb dL_law_1361 (by decide) ?_
  refine lv_iload_n hx hb dL_law_18 rfl (lv_at hl 0 rfl) ?_
  refine lv_aload_n hx hb dL_law_19 rfl (lv_at hl 3 rfl) ?_
  refine va_slen hx hb hX hbl hbA hS dL_law_20 ?_
  refine jtopr (y := 6) (by rw [hL6]; rfl) ?_
  refine lv_bipush (v := 6) hx hb dL_law_21 (by decide) ?_
  refine lv_isub hx hb dL_law_23 ?_
  refine jtopr (y := 0) (by decide) ?_
  refine lv_icmp_gt (tgt := 1364) hx hb dL_law_24 (by decide) (fun _ => ?_) (fun c => absurd (by decide) c)
  refine lv_iconst (v := 1) hx hb dL_law_1364 (by decide) ?_
  refine va_forget (fun q hq => hS.2.2 q hq) ?_
  refine W.widen (k := 600000) (n := 7302250) (Nat.le_of_ble_eq_true rfl) (Nat.le_of_ble_eq_true rfl) ?_
  exact lw_ret hx hb hr hlocks dL_law_1365
set_option maxHeartbeats 4000000 in
set_option maxRecDepth 100000 in
theorem law_case_21 {p : Program} {e : Env} {s : State} {m : MethodId} {below : List Frame} {meth : Method} {c : Code} (l : Launch) {b L : Nat} {xs : Nat → Int32} {D : va_G} {cI cL : ClassId} {ad : Nat → Nat} (C0 : lw_At p s m meth c b L xs) (hJ : jD ad) (hA : ∀ q, jA ad q → s.heap.size ≤ q) (hK : jK D cI cL s) (hL6 : L = 6) {H : Heap} {locs : List Loc} (hS : va_S (fun q : Nat => s.heap.size ≤ q) s.heap H locs) {ls : Array Slot} (hP : jH D cI cL ad sg0 tu0 H) (hl : lv_has ls 4 [(3, .int 0), (2, .ref (ad 55)), (1, .ref (ad 0)), (0, .ref b)]) : W p l e room_1 s m #[Value.ref b] below meth c H locs 90 348600 (lw_Z below #[Value.ref b] s) (F0 m 839 ls []) := by
  obtain ⟨hx, hb, hr, hml, hown, hts0, hX, hbl, hlocks, hgv⟩ := C0
  have hts : ∀ w ∈ wsL_law, w.before #[Value.ref b] s = true := fun w h => hts0 w (wsL_law_in w h)
  have hbA : ¬ (fun q : Nat => s.heap.size ≤ q) b := Nat.not_le.mpr hbl
  have hown : s.vm.findClass RL = some m.cls := hown
  refine lv_aload_n hx hb dL_law_839 rfl (lv_at hl 2 rfl) ?_
  refine jcallV (As := []) (rest := []) ⟨hx, hb, hml, hown, hts⟩ hK hP hA hS (c_X11_close l D cI cL ad hJ sg0 tu0 jf_47_0) cw_RL_101 (jc_0 cI cL ad sg0 tu0) rfl ⟨Nat.le_of_ble_eq_true rfl, Nat.le_of_ble_eq_true rfl⟩ rfl rfl rfl hl.1 rfl (Nat.le_of_ble_eq_true rfl) dL_law_840 ⟨Nat.le_of_ble_eq_true rfl, Nat.le_of_ble_eq_true rfl⟩ (fun r2 σ1 τ1 H locs h1 hP hS => ?_)
  obtain ⟨f3, qr2⟩ := h1
  refine lv_aload_n hx hb dL_law_843 rfl (lv_at hl 1 rfl) ?_
  have m4 : σ1 55 47 = 0 := (by rw [f3 55 (by omega)]; exact jf_55_47)
  refine jcallV (As := []) (rest := [.int r2]) ⟨hx, hb, hml, hown, hts⟩ hK hP hA hS (c_X12_close l D cI cL ad hJ σ1 τ1 m4) cw_RL_104 (jc_55 cI cL ad σ1 τ1) rfl ⟨Nat.le_of_ble_eq_true rfl, Nat.le_of_ble_eq_true rfl⟩ rfl rfl rfl hl.1 rfl (Nat.le_of_ble_eq_true rfl) dL_law_844 ⟨Nat.le_of_ble_eq_true rfl, Nat.le_of_ble_eq_true rfl⟩ (fun r6 σ5 τ5 H locs h5 hP hS => ?_)
  obtain ⟨-, qr6⟩ := h5
  refine lv_icmp_eq (tgt := 1358) hx hb dL_law_847 (by decide) (fun _ => ?_) (fun c => absurd (qr2.trans qr6.symm) c)
  refine lv_iinc (v := 6) (lv' := [(3, .int 6), (2, .ref (ad 55)), (1, .ref (ad 0)), (0, .ref b)]) hx hb dL_law_1358 hl (k := 0) rfl (by decide) (by decide) rfl (fun ls hl => ?_)
  refine lv_goto (tgt := 18) hx hb dL_law_1361 (by decide) ?_
  refine lv_iload_n hx hb dL_law_18 rfl (lv_at hl 0 rfl) ?_
  refine lv_aload_n hx hb dL_law_19 rfl (lv_at hl 3 rfl) ?_
  refine va_slen hx hb hX hbl hbA hS dL_law_20 ?_
  refine jtopr (y := 6) (by rw [hL6]; rfl) ?_
  refine lv_bipush (v := 6) hx hb dL_law_21 (by decide) ?_
  refine lv_isub hx hb dL_law_23 ?_
  refine jtopr (y := 0) (by decide) ?_
  refine lv_icmp_gt (tgt := 1364) hx hb dL_law_24 (by decide) (fun _ => ?_) (fun c => absurd (by decide) c)
  refine lv_iconst (v := 1) hx hb dL_law_1364 (by decide) ?_
  refine va_forget (fun q hq => hS.2.2 q hq) ?_
  refine W.widen (k := 600000) (n := 7302250) (Nat.le_of_ble_eq_true rfl) (Nat.le_of_ble_eq_true rfl) ?_
  exact lw_ret hx hb hr hlocks dL_law_1365
set_option maxHeartbeats 4000000 in
set_option maxRecDepth 100000 in
theorem law_case_22 {p : Program} {e : Env} {s : State} {m : MethodId} {below : List Frame} {meth : Method} {c : Code} (l : Launch) {b L : Nat} {xs : Nat → Int32} {D : va_G} {cI cL : ClassId} {ad : Nat → Nat} (C0 : lw_At p s m meth c b L xs) (hJ : jD ad) (hA : ∀ q, jA ad q → s.heap.size ≤ q) (hK : jK D cI cL s) (hL6 : L = 6) {H : Heap} {locs : List Loc} (hS : va_S (fun q : Nat => s.heap.size ≤ q) s.heap H locs) {ls : Array Slot} (hP : jH D cI cL ad sg0 tu0 H) (hl : lv_has ls 4 [(3, .int 0), (2, .ref (ad 55)), (1, .ref (ad 0)), (0, .ref b)]) : W p l e room_1 s m #[Value.ref b] below meth c H locs 90 348600 (lw_Z below #[Value.ref b] s) (F0 m 852 ls []) := by
  obtain ⟨hx, hb, hr, hml, hown, hts0, hX, hbl, hlocks, hgv⟩ := C0
  have hts : ∀ w ∈ wsL_law, w.before #[Value.ref b] s = true := fun w h => hts0 w (wsL_law_in w h)
  have hbA : ¬ (fun q : Nat => s.heap.size ≤ q) b := Nat.not_le.mpr hbl
  have hown : s.vm.findClass RL = some m.cls := hown
  refine lv_aload_n hx hb dL_law_852 rfl (lv_at hl 2 rfl) ?_
  refine lv_aload_n hx hb dL_law_853 rfl (lv_at hl 3 rfl) ?_
  refine lv_iload_n hx hb dL_law_854 rfl (lv_at hl 0 rfl) ?_
  refine lv_iconst (v := 1) hx hb dL_law_855 (by decide) ?_
  refine lv_iadd hx hb dL_law_856 ?_
  refine jtopr (y := 1) (by decide) ?_
  refine va_sld hx hb hX hbl hbA hS (jin jz_1 (by omega) (by omega)) dL_law_857 ?_
  refine jtopr (y := xs 1) rfl ?_
  refine jcallV (As := [.int (xs 1)]) (rest := []) ⟨hx, hb, hml, hown, hts⟩ hK hP hA hS (c_X11_cost l D cI cL ad hJ sg0 tu0 (xs 1) ((xs 1).toInt) rfl jf_47_0) cw_RL_105 (jc_0 cI cL ad sg0 tu0) rfl ⟨Nat.le_of_ble_eq_true rfl, Nat.le_of_ble_eq_true rfl⟩ rfl rfl rfl hl.1 rfl (Nat.le_of_ble_eq_true rfl) dL_law_858 ⟨Nat.le_of_ble_eq_true rfl, Nat.le_of_ble_eq_true rfl⟩ (fun r2 σ1 τ1 H locs h1 hP hS => ?_)
  obtain ⟨f3, qr2⟩ := h1
  refine lv_aload_n hx hb dL_law_861 rfl (lv_at hl 1 rfl) ?_
  refine lv_aload_n hx hb dL_law_862 rfl (lv_at hl 3 rfl) ?_
  refine lv_iload_n hx hb dL_law_863 rfl (lv_at hl 0 rfl) ?_
  refine lv_iconst (v := 1) hx hb dL_law_864 (by decide) ?_
  refine lv_iadd hx hb dL_law_865 ?_
  refine jtopr (y := 1) (by decide) ?_
  refine va_sld hx hb hX hbl hbA hS (jin jz_1 (by omega) (by omega)) dL_law_866 ?_
  refine jtopr (y := xs 1) rfl ?_
  have m4 : σ1 55 47 = 0 := (by rw [f3 55 (by omega)]; exact jf_55_47)
  refine jcallV (As := [.int (xs 1)]) (rest := [.int r2]) ⟨hx, hb, hml, hown, hts⟩ hK hP hA hS (c_X12_cost l D cI cL ad hJ σ1 τ1 (xs 1) ((xs 1).toInt) rfl m4) cw_RL_108 (jc_55 cI cL ad σ1 τ1) rfl ⟨Nat.le_of_ble_eq_true rfl, Nat.le_of_ble_eq_true rfl⟩ rfl rfl rfl hl.1 rfl (Nat.le_of_ble_eq_true rfl) dL_law_867 ⟨Nat.le_of_ble_eq_true rfl, Nat.le_of_ble_eq_true rfl⟩ (fun r6 σ5 τ5 H locs h5 hP hS => ?_)
  obtain ⟨-, qr6⟩ := h5
  refine lv_icmp_eq (tgt := 1358) hx hb dL_law_870 (by decide) (fun _ => ?_) (fun c => absurd (qr2.trans qr6.symm) c)
  refine lv_iinc (v := 6) (lv' := [(3, .int 6), (2, .ref (ad 55)), (1, .ref (ad 0)), (0, .ref b)]) hx hb dL_law_1358 hl (k := 0) rfl (by decide) (by decide) rfl (fun ls hl => ?_)
  refine lv_goto (tgt := 18) hx hb dL_law_1361 (by decide) ?_
  refine lv_iload_n hx hb dL_law_18 rfl (lv_at hl 0 rfl) ?_
  refine lv_aload_n hx hb dL_law_19 rfl (lv_at hl 3 rfl) ?_
  refine va_slen hx hb hX hbl hbA hS dL_law_20 ?_
  refine jtopr (y := 6) (by rw [hL6]; rfl) ?_
  refine lv_bipush (v := 6) hx hb dL_law_21 (by decide) ?_
  refine lv_isub hx hb dL_law_23 ?_
  refine jtopr (y := 0) (by decide) ?_
  refine lv_icmp_gt (tgt := 1364) hx hb dL_law_24 (by decide) (fun _ => ?_) (fun c => absurd (by decide) c)
  refine lv_iconst (v := 1) hx hb dL_law_1364 (by decide) ?_
  refine va_forget (fun q hq => hS.2.2 q hq) ?_
  refine W.widen (k := 600000) (n := 7302250) (Nat.le_of_ble_eq_true rfl) (Nat.le_of_ble_eq_true rfl) ?_
  exact lw_ret hx hb hr hlocks dL_law_1365
set_option maxHeartbeats 4000000 in
set_option maxRecDepth 100000 in
theorem law_case_23 {p : Program} {e : Env} {s : State} {m : MethodId} {below : List Frame} {meth : Method} {c : Code} (l : Launch) {b L : Nat} {xs : Nat → Int32} {D : va_G} {cI cL : ClassId} {ad : Nat → Nat} (C0 : lw_At p s m meth c b L xs) (hJ : jD ad) (hA : ∀ q, jA ad q → s.heap.size ≤ q) (hK : jK D cI cL s) (hL6 : L = 6) {H : Heap} {locs : List Loc} (hS : va_S (fun q : Nat => s.heap.size ≤ q) s.heap H locs) {ls : Array Slot} (hP : jH D cI cL ad sg0 tu0 H) (hl : lv_has ls 4 [(3, .int 0), (2, .ref (ad 55)), (1, .ref (ad 0)), (0, .ref b)]) : W p l e room_1 s m #[Value.ref b] below meth c H locs 90 348600 (lw_Z below #[Value.ref b] s) (F0 m 875 ls []) := by
  obtain ⟨hx, hb, hr, hml, hown, hts0, hX, hbl, hlocks, hgv⟩ := C0
  have hts : ∀ w ∈ wsL_law, w.before #[Value.ref b] s = true := fun w h => hts0 w (wsL_law_in w h)
  have hbA : ¬ (fun q : Nat => s.heap.size ≤ q) b := Nat.not_le.mpr hbl
  have hown : s.vm.findClass RL = some m.cls := hown
  refine lv_aload_n hx hb dL_law_875 rfl (lv_at hl 2 rfl) ?_
  refine lv_aload_n hx hb dL_law_876 rfl (lv_at hl 3 rfl) ?_
  refine lv_iload_n hx hb dL_law_877 rfl (lv_at hl 0 rfl) ?_
  refine lv_iconst (v := 1) hx hb dL_law_878 (by decide) ?_
  refine lv_iadd hx hb dL_law_879 ?_
  refine jtopr (y := 1) (by decide) ?_
  refine va_sld hx hb hX hbl hbA hS (jin jz_1 (by omega) (by omega)) dL_law_880 ?_
  refine jtopr (y := xs 1) rfl ?_
  refine jcallV (As := [.int (xs 1)]) (rest := []) ⟨hx, hb, hml, hown, hts⟩ hK hP hA hS (c_X11_lost l D cI cL ad hJ sg0 tu0 (xs 1) ((xs 1).toInt) rfl jf_47_0) cw_RL_109 (jc_0 cI cL ad sg0 tu0) rfl ⟨Nat.le_of_ble_eq_true rfl, Nat.le_of_ble_eq_true rfl⟩ rfl rfl rfl hl.1 rfl (Nat.le_of_ble_eq_true rfl) dL_law_881 ⟨Nat.le_of_ble_eq_true rfl, Nat.le_of_ble_eq_true rfl⟩ (fun r2 σ1 τ1 H locs h1 hP hS => ?_)
  obtain ⟨f3, qr2⟩ := h1
  refine lv_aload_n hx hb dL_law_884 rfl (lv_at hl 1 rfl) ?_
  refine lv_aload_n hx hb dL_law_885 rfl (lv_at hl 3 rfl) ?_
  refine lv_iload_n hx hb dL_law_886 rfl (lv_at hl 0 rfl) ?_
  refine lv_iconst (v := 1) hx hb dL_law_887 (by decide) ?_
  refine lv_iadd hx hb dL_law_888 ?_
  refine jtopr (y := 1) (by decide) ?_
  refine va_sld hx hb hX hbl hbA hS (jin jz_1 (by omega) (by omega)) dL_law_889 ?_
  refine jtopr (y := xs 1) rfl ?_
  have m4 : σ1 55 47 = 0 := (by rw [f3 55 (by omega)]; exact jf_55_47)
  refine jcallV (As := [.int (xs 1)]) (rest := [.int r2]) ⟨hx, hb, hml, hown, hts⟩ hK hP hA hS (c_X12_lost l D cI cL ad hJ σ1 τ1 (xs 1) ((xs 1).toInt) rfl m4) cw_RL_112 (jc_55 cI cL ad σ1 τ1) rfl ⟨Nat.le_of_ble_eq_true rfl, Nat.le_of_ble_eq_true rfl⟩ rfl rfl rfl hl.1 rfl (Nat.le_of_ble_eq_true rfl) dL_law_890 ⟨Nat.le_of_ble_eq_true rfl, Nat.le_of_ble_eq_true rfl⟩ (fun r6 σ5 τ5 H locs h5 hP hS => ?_)
  obtain ⟨-, qr6⟩ := h5
  refine lv_icmp_eq (tgt := 1358) hx hb dL_law_893 (by decide) (fun _ => ?_) (fun c => absurd (qr2.trans qr6.symm) c)
  refine lv_iinc (v := 6) (lv' := [(3, .int 6), (2, .ref (ad 55)), (1, .ref (ad 0)), (0, .ref b)]) hx hb dL_law_1358 hl (k := 0) rfl (by decide) (by decide) rfl (fun ls hl => ?_)
  refine lv_goto (tgt := 18) hx hb dL_law_1361 (by decide) ?_
  refine lv_iload_n hx hb dL_law_18 rfl (lv_at hl 0 rfl) ?_
  refine lv_aload_n hx hb dL_law_19 rfl (lv_at hl 3 rfl) ?_
  refine va_slen hx hb hX hbl hbA hS dL_law_20 ?_
  refine jtopr (y := 6) (by rw [hL6]; rfl) ?_
  refine lv_bipush (v := 6) hx hb dL_law_21 (by decide) ?_
  refine lv_isub hx hb dL_law_23 ?_
  refine jtopr (y := 0) (by decide) ?_
  refine lv_icmp_gt (tgt := 1364) hx hb dL_law_24 (by decide) (fun _ => ?_) (fun c => absurd (by decide) c)
  refine lv_iconst (v := 1) hx hb dL_law_1364 (by decide) ?_
  refine va_forget (fun q hq => hS.2.2 q hq) ?_
  refine W.widen (k := 600000) (n := 7302250) (Nat.le_of_ble_eq_true rfl) (Nat.le_of_ble_eq_true rfl) ?_
  exact lw_ret hx hb hr hlocks dL_law_1365
set_option maxHeartbeats 4000000 in
set_option maxRecDepth 100000 in
theorem law_case_24 {p : Program} {e : Env} {s : State} {m : MethodId} {below : List Frame} {meth : Method} {c : Code} (l : Launch) {b L : Nat} {xs : Nat → Int32} {D : va_G} {cI cL : ClassId} {ad : Nat → Nat} (C0 : lw_At p s m meth c b L xs) (hJ : jD ad) (hA : ∀ q, jA ad q → s.heap.size ≤ q) (hK : jK D cI cL s) (hL6 : L = 6) {H : Heap} {locs : List Loc} (hS : va_S (fun q : Nat => s.heap.size ≤ q) s.heap H locs) {ls : Array Slot} (hP : jH D cI cL ad sg0 tu0 H) (hl : lv_has ls 4 [(3, .int 0), (2, .ref (ad 55)), (1, .ref (ad 0)), (0, .ref b)]) : W p l e room_1 s m #[Value.ref b] below meth c H locs 90 348600 (lw_Z below #[Value.ref b] s) (F0 m 898 ls []) := by
  obtain ⟨hx, hb, hr, hml, hown, hts0, hX, hbl, hlocks, hgv⟩ := C0
  have hts : ∀ w ∈ wsL_law, w.before #[Value.ref b] s = true := fun w h => hts0 w (wsL_law_in w h)
  have hbA : ¬ (fun q : Nat => s.heap.size ≤ q) b := Nat.not_le.mpr hbl
  have hown : s.vm.findClass RL = some m.cls := hown
  refine lv_aload_n hx hb dL_law_898 rfl (lv_at hl 2 rfl) ?_
  refine lv_aload_n hx hb dL_law_899 rfl (lv_at hl 3 rfl) ?_
  refine lv_iload_n hx hb dL_law_900 rfl (lv_at hl 0 rfl) ?_
  refine lv_iconst (v := 1) hx hb dL_law_901 (by decide) ?_
  refine lv_iadd hx hb dL_law_902 ?_
  refine jtopr (y := 1) (by decide) ?_
  refine va_sld hx hb hX hbl hbA hS (jin jz_1 (by omega) (by omega)) dL_law_903 ?_
  refine jtopr (y := xs 1) rfl ?_
  refine lv_aload_n hx hb dL_law_904 rfl (lv_at hl 3 rfl) ?_
  refine lv_iload_n hx hb dL_law_905 rfl (lv_at hl 0 rfl) ?_
  refine lv_iconst (v := 2) hx hb dL_law_906 (by decide) ?_
  refine lv_iadd hx hb dL_law_907 ?_
  refine jtopr (y := 2) (by decide) ?_
  refine va_sld hx hb hX hbl hbA hS (jin jz_2 (by omega) (by omega)) dL_law_908 ?_
  refine jtopr (y := xs 2) rfl ?_
  refine jcallV (As := [.int (xs 1), .int (xs 2)]) (rest := []) ⟨hx, hb, hml, hown, hts⟩ hK hP hA hS (c_X11_game l D cI cL ad hJ sg0 tu0 (xs 1) ((xs 1).toInt) rfl (xs 2) ((xs 2).toInt) rfl jf_38_0) cw_RL_113 (jc_0 cI cL ad sg0 tu0) rfl ⟨Nat.le_of_ble_eq_true rfl, Nat.le_of_ble_eq_true rfl⟩ rfl rfl rfl hl.1 rfl (Nat.le_of_ble_eq_true rfl) dL_law_909 ⟨Nat.le_of_ble_eq_true rfl, Nat.le_of_ble_eq_true rfl⟩ (fun r2 σ1 τ1 H locs h1 hP hS => ?_)
  obtain ⟨f3, qr2⟩ := h1
  refine lv_aload_n hx hb dL_law_912 rfl (lv_at hl 1 rfl) ?_
  refine lv_aload_n hx hb dL_law_913 rfl (lv_at hl 3 rfl) ?_
  refine lv_iload_n hx hb dL_law_914 rfl (lv_at hl 0 rfl) ?_
  refine lv_iconst (v := 1) hx hb dL_law_915 (by decide) ?_
  refine lv_iadd hx hb dL_law_916 ?_
  refine jtopr (y := 1) (by decide) ?_
  refine va_sld hx hb hX hbl hbA hS (jin jz_1 (by omega) (by omega)) dL_law_917 ?_
  refine jtopr (y := xs 1) rfl ?_
  refine lv_aload_n hx hb dL_law_918 rfl (lv_at hl 3 rfl) ?_
  refine lv_iload_n hx hb dL_law_919 rfl (lv_at hl 0 rfl) ?_
  refine lv_iconst (v := 2) hx hb dL_law_920 (by decide) ?_
  refine lv_iadd hx hb dL_law_921 ?_
  refine jtopr (y := 2) (by decide) ?_
  refine va_sld hx hb hX hbl hbA hS (jin jz_2 (by omega) (by omega)) dL_law_922 ?_
  refine jtopr (y := xs 2) rfl ?_
  have m4 : σ1 55 32 = 0 := (by rw [f3 55 (by omega)]; exact jf_55_32)
  refine jcallV (As := [.int (xs 1), .int (xs 2)]) (rest := [.int r2]) ⟨hx, hb, hml, hown, hts⟩ hK hP hA hS (c_X12_game l D cI cL ad hJ σ1 τ1 (xs 1) ((xs 1).toInt) rfl (xs 2) ((xs 2).toInt) rfl m4) cw_RL_116 (jc_55 cI cL ad σ1 τ1) rfl ⟨Nat.le_of_ble_eq_true rfl, Nat.le_of_ble_eq_true rfl⟩ rfl rfl rfl hl.1 rfl (Nat.le_of_ble_eq_true rfl) dL_law_923 ⟨Nat.le_of_ble_eq_true rfl, Nat.le_of_ble_eq_true rfl⟩ (fun r6 σ5 τ5 H locs h5 hP hS => ?_)
  obtain ⟨-, qr6⟩ := h5
  refine lv_icmp_eq (tgt := 1358) hx hb dL_law_926 (by decide) (fun _ => ?_) (fun c => absurd (qr2.trans qr6.symm) c)
  refine lv_iinc (v := 6) (lv' := [(3, .int 6), (2, .ref (ad 55)), (1, .ref (ad 0)), (0, .ref b)]) hx hb dL_law_1358 hl (k := 0) rfl (by decide) (by decide) rfl (fun ls hl => ?_)
  refine lv_goto (tgt := 18) hx hb dL_law_1361 (by decide) ?_
  refine lv_iload_n hx hb dL_law_18 rfl (lv_at hl 0 rfl) ?_
  refine lv_aload_n hx hb dL_law_19 rfl (lv_at hl 3 rfl) ?_
  refine va_slen hx hb hX hbl hbA hS dL_law_20 ?_
  refine jtopr (y := 6) (by rw [hL6]; rfl) ?_
  refine lv_bipush (v := 6) hx hb dL_law_21 (by decide) ?_
  refine lv_isub hx hb dL_law_23 ?_
  refine jtopr (y := 0) (by decide) ?_
  refine lv_icmp_gt (tgt := 1364) hx hb dL_law_24 (by decide) (fun _ => ?_) (fun c => absurd (by decide) c)
  refine lv_iconst (v := 1) hx hb dL_law_1364 (by decide) ?_
  refine va_forget (fun q hq => hS.2.2 q hq) ?_
  refine W.widen (k := 600000) (n := 7302250) (Nat.le_of_ble_eq_true rfl) (Nat.le_of_ble_eq_true rfl) ?_
  exact lw_ret hx hb hr hlocks dL_law_1365
set_option maxHeartbeats 4000000 in
set_option maxRecDepth 100000 in
theorem law_case_25 {p : Program} {e : Env} {s : State} {m : MethodId} {below : List Frame} {meth : Method} {c : Code} (l : Launch) {b L : Nat} {xs : Nat → Int32} {D : va_G} {cI cL : ClassId} {ad : Nat → Nat} (C0 : lw_At p s m meth c b L xs) (hJ : jD ad) (hA : ∀ q, jA ad q → s.heap.size ≤ q) (hK : jK D cI cL s) (hL6 : L = 6) {H : Heap} {locs : List Loc} (hS : va_S (fun q : Nat => s.heap.size ≤ q) s.heap H locs) {ls : Array Slot} (hP : jH D cI cL ad sg0 tu0 H) (hl : lv_has ls 4 [(3, .int 0), (2, .ref (ad 55)), (1, .ref (ad 0)), (0, .ref b)]) : W p l e room_1 s m #[Value.ref b] below meth c H locs 90 348600 (lw_Z below #[Value.ref b] s) (F0 m 931 ls []) := by
  obtain ⟨hx, hb, hr, hml, hown, hts0, hX, hbl, hlocks, hgv⟩ := C0
  have hts : ∀ w ∈ wsL_law, w.before #[Value.ref b] s = true := fun w h => hts0 w (wsL_law_in w h)
  have hbA : ¬ (fun q : Nat => s.heap.size ≤ q) b := Nat.not_le.mpr hbl
  have hown : s.vm.findClass RL = some m.cls := hown
  refine lv_aload_n hx hb dL_law_931 rfl (lv_at hl 2 rfl) ?_
  refine lv_aload_n hx hb dL_law_932 rfl (lv_at hl 3 rfl) ?_
  refine lv_iload_n hx hb dL_law_933 rfl (lv_at hl 0 rfl) ?_
  refine lv_iconst (v := 1) hx hb dL_law_934 (by decide) ?_
  refine lv_iadd hx hb dL_law_935 ?_
  refine jtopr (y := 1) (by decide) ?_
  refine va_sld hx hb hX hbl hbA hS (jin jz_1 (by omega) (by omega)) dL_law_936 ?_
  refine jtopr (y := xs 1) rfl ?_
  refine lv_aload_n hx hb dL_law_937 rfl (lv_at hl 3 rfl) ?_
  refine lv_iload_n hx hb dL_law_938 rfl (lv_at hl 0 rfl) ?_
  refine lv_iconst (v := 2) hx hb dL_law_939 (by decide) ?_
  refine lv_iadd hx hb dL_law_940 ?_
  refine jtopr (y := 2) (by decide) ?_
  refine va_sld hx hb hX hbl hbA hS (jin jz_2 (by omega) (by omega)) dL_law_941 ?_
  refine jtopr (y := xs 2) rfl ?_
  refine jcallV (As := [.int (xs 1), .int (xs 2)]) (rest := []) ⟨hx, hb, hml, hown, hts⟩ hK hP hA hS (c_X11_led l D cI cL ad hJ sg0 tu0 (xs 1) ((xs 1).toInt) rfl (xs 2) ((xs 2).toInt) rfl jf_43_8) cw_RL_117 (jc_0 cI cL ad sg0 tu0) rfl ⟨Nat.le_of_ble_eq_true rfl, Nat.le_of_ble_eq_true rfl⟩ rfl rfl rfl hl.1 rfl (Nat.le_of_ble_eq_true rfl) dL_law_942 ⟨Nat.le_of_ble_eq_true rfl, Nat.le_of_ble_eq_true rfl⟩ (fun r2 σ1 τ1 H locs h1 hP hS => ?_)
  obtain ⟨f3, qr2⟩ := h1
  refine lv_aload_n hx hb dL_law_945 rfl (lv_at hl 1 rfl) ?_
  refine lv_aload_n hx hb dL_law_946 rfl (lv_at hl 3 rfl) ?_
  refine lv_iload_n hx hb dL_law_947 rfl (lv_at hl 0 rfl) ?_
  refine lv_iconst (v := 1) hx hb dL_law_948 (by decide) ?_
  refine lv_iadd hx hb dL_law_949 ?_
  refine jtopr (y := 1) (by decide) ?_
  refine va_sld hx hb hX hbl hbA hS (jin jz_1 (by omega) (by omega)) dL_law_950 ?_
  refine jtopr (y := xs 1) rfl ?_
  refine lv_aload_n hx hb dL_law_951 rfl (lv_at hl 3 rfl) ?_
  refine lv_iload_n hx hb dL_law_952 rfl (lv_at hl 0 rfl) ?_
  refine lv_iconst (v := 2) hx hb dL_law_953 (by decide) ?_
  refine lv_iadd hx hb dL_law_954 ?_
  refine jtopr (y := 2) (by decide) ?_
  refine va_sld hx hb hX hbl hbA hS (jin jz_2 (by omega) (by omega)) dL_law_955 ?_
  refine jtopr (y := xs 2) rfl ?_
  have m4 : σ1 55 50 = 0 := (by rw [f3 55 (by omega)]; exact jf_55_50)
  refine jcallV (As := [.int (xs 1), .int (xs 2)]) (rest := [.int r2]) ⟨hx, hb, hml, hown, hts⟩ hK hP hA hS (c_X12_led l D cI cL ad hJ σ1 τ1 (xs 1) ((xs 1).toInt) rfl (xs 2) ((xs 2).toInt) rfl m4) cw_RL_120 (jc_55 cI cL ad σ1 τ1) rfl ⟨Nat.le_of_ble_eq_true rfl, Nat.le_of_ble_eq_true rfl⟩ rfl rfl rfl hl.1 rfl (Nat.le_of_ble_eq_true rfl) dL_law_956 ⟨Nat.le_of_ble_eq_true rfl, Nat.le_of_ble_eq_true rfl⟩ (fun r6 σ5 τ5 H locs h5 hP hS => ?_)
  obtain ⟨-, qr6⟩ := h5
  refine lv_icmp_eq (tgt := 1358) hx hb dL_law_959 (by decide) (fun _ => ?_) (fun c => absurd (qr2.trans qr6.symm) c)
  refine lv_iinc (v := 6) (lv' := [(3, .int 6), (2, .ref (ad 55)), (1, .ref (ad 0)), (0, .ref b)]) hx hb dL_law_1358 hl (k := 0) rfl (by decide) (by decide) rfl (fun ls hl => ?_)
  refine lv_goto (tgt := 18) hx hb dL_law_1361 (by decide) ?_
  refine lv_iload_n hx hb dL_law_18 rfl (lv_at hl 0 rfl) ?_
  refine lv_aload_n hx hb dL_law_19 rfl (lv_at hl 3 rfl) ?_
  refine va_slen hx hb hX hbl hbA hS dL_law_20 ?_
  refine jtopr (y := 6) (by rw [hL6]; rfl) ?_
  refine lv_bipush (v := 6) hx hb dL_law_21 (by decide) ?_
  refine lv_isub hx hb dL_law_23 ?_
  refine jtopr (y := 0) (by decide) ?_
  refine lv_icmp_gt (tgt := 1364) hx hb dL_law_24 (by decide) (fun _ => ?_) (fun c => absurd (by decide) c)
  refine lv_iconst (v := 1) hx hb dL_law_1364 (by decide) ?_
  refine va_forget (fun q hq => hS.2.2 q hq) ?_
  refine W.widen (k := 600000) (n := 7302250) (Nat.le_of_ble_eq_true rfl) (Nat.le_of_ble_eq_true rfl) ?_
  exact lw_ret hx hb hr hlocks dL_law_1365
set_option maxHeartbeats 4000000 in
set_option maxRecDepth 100000 in
theorem law_case_26 {p : Program} {e : Env} {s : State} {m : MethodId} {below : List Frame} {meth : Method} {c : Code} (l : Launch) {b L : Nat} {xs : Nat → Int32} {D : va_G} {cI cL : ClassId} {ad : Nat → Nat} (C0 : lw_At p s m meth c b L xs) (hJ : jD ad) (hA : ∀ q, jA ad q → s.heap.size ≤ q) (hK : jK D cI cL s) (hL6 : L = 6) {H : Heap} {locs : List Loc} (hS : va_S (fun q : Nat => s.heap.size ≤ q) s.heap H locs) {ls : Array Slot} (hP : jH D cI cL ad sg0 tu0 H) (hl : lv_has ls 4 [(3, .int 0), (2, .ref (ad 55)), (1, .ref (ad 0)), (0, .ref b)]) : W p l e room_1 s m #[Value.ref b] below meth c H locs 90 348600 (lw_Z below #[Value.ref b] s) (F0 m 964 ls []) := by
  obtain ⟨hx, hb, hr, hml, hown, hts0, hX, hbl, hlocks, hgv⟩ := C0
  have hts : ∀ w ∈ wsL_law, w.before #[Value.ref b] s = true := fun w h => hts0 w (wsL_law_in w h)
  have hbA : ¬ (fun q : Nat => s.heap.size ≤ q) b := Nat.not_le.mpr hbl
  have hown : s.vm.findClass RL = some m.cls := hown
  refine lv_aload_n hx hb dL_law_964 rfl (lv_at hl 2 rfl) ?_
  refine jcallV (As := []) (rest := []) ⟨hx, hb, hml, hown, hts⟩ hK hP hA hS (c_X11_undo l D cI cL ad hJ sg0 tu0 jf_2_2) cw_RL_121 (jc_0 cI cL ad sg0 tu0) rfl ⟨Nat.le_of_ble_eq_true rfl, Nat.le_of_ble_eq_true rfl⟩ rfl rfl rfl hl.1 rfl (Nat.le_of_ble_eq_true rfl) dL_law_965 ⟨Nat.le_of_ble_eq_true rfl, Nat.le_of_ble_eq_true rfl⟩ (fun r2 σ1 τ1 H locs h1 hP hS => ?_)
  obtain ⟨f3, qr2⟩ := h1
  refine lv_aload_n hx hb dL_law_968 rfl (lv_at hl 1 rfl) ?_
  have m4 : σ1 55 5 = 0 := (by rw [f3 55 (by omega)]; exact jf_55_5)
  refine jcallV (As := []) (rest := [.int r2]) ⟨hx, hb, hml, hown, hts⟩ hK hP hA hS (c_X12_undo l D cI cL ad hJ σ1 τ1 m4) cw_RL_124 (jc_55 cI cL ad σ1 τ1) rfl ⟨Nat.le_of_ble_eq_true rfl, Nat.le_of_ble_eq_true rfl⟩ rfl rfl rfl hl.1 rfl (Nat.le_of_ble_eq_true rfl) dL_law_969 ⟨Nat.le_of_ble_eq_true rfl, Nat.le_of_ble_eq_true rfl⟩ (fun r6 σ5 τ5 H locs h5 hP hS => ?_)
  obtain ⟨-, qr6⟩ := h5
  refine lv_icmp_eq (tgt := 1358) hx hb dL_law_972 (by decide) (fun _ => ?_) (fun c => absurd (qr2.trans qr6.symm) c)
  refine lv_iinc (v := 6) (lv' := [(3, .int 6), (2, .ref (ad 55)), (1, .ref (ad 0)), (0, .ref b)]) hx hb dL_law_1358 hl (k := 0) rfl (by decide) (by decide) rfl (fun ls hl => ?_)
  refine lv_goto (tgt := 18) hx hb dL_law_1361 (by decide) ?_
  refine lv_iload_n hx hb dL_law_18 rfl (lv_at hl 0 rfl) ?_
  refine lv_aload_n hx hb dL_law_19 rfl (lv_at hl 3 rfl) ?_
  refine va_slen hx hb hX hbl hbA hS dL_law_20 ?_
  refine jtopr (y := 6) (by rw [hL6]; rfl) ?_
  refine lv_bipush (v := 6) hx hb dL_law_21 (by decide) ?_
  refine lv_isub hx hb dL_law_23 ?_
  refine jtopr (y := 0) (by decide) ?_
  refine lv_icmp_gt (tgt := 1364) hx hb dL_law_24 (by decide) (fun _ => ?_) (fun c => absurd (by decide) c)
  refine lv_iconst (v := 1) hx hb dL_law_1364 (by decide) ?_
  refine va_forget (fun q hq => hS.2.2 q hq) ?_
  refine W.widen (k := 600000) (n := 7302250) (Nat.le_of_ble_eq_true rfl) (Nat.le_of_ble_eq_true rfl) ?_
  exact lw_ret hx hb hr hlocks dL_law_1365
set_option maxHeartbeats 4000000 in
set_option maxRecDepth 100000 in
theorem law_case_27 {p : Program} {e : Env} {s : State} {m : MethodId} {below : List Frame} {meth : Method} {c : Code} (l : Launch) {b L : Nat} {xs : Nat → Int32} {D : va_G} {cI cL : ClassId} {ad : Nat → Nat} (C0 : lw_At p s m meth c b L xs) (hJ : jD ad) (hA : ∀ q, jA ad q → s.heap.size ≤ q) (hK : jK D cI cL s) (hL6 : L = 6) {H : Heap} {locs : List Loc} (hS : va_S (fun q : Nat => s.heap.size ≤ q) s.heap H locs) {ls : Array Slot} (hP : jH D cI cL ad sg0 tu0 H) (hl : lv_has ls 4 [(3, .int 0), (2, .ref (ad 55)), (1, .ref (ad 0)), (0, .ref b)]) : W p l e room_1 s m #[Value.ref b] below meth c H locs 90 348600 (lw_Z below #[Value.ref b] s) (F0 m 977 ls []) := by
  obtain ⟨hx, hb, hr, hml, hown, hts0, hX, hbl, hlocks, hgv⟩ := C0
  have hts : ∀ w ∈ wsL_law, w.before #[Value.ref b] s = true := fun w h => hts0 w (wsL_law_in w h)
  have hbA : ¬ (fun q : Nat => s.heap.size ≤ q) b := Nat.not_le.mpr hbl
  have hown : s.vm.findClass RL = some m.cls := hown
  refine lv_aload_n hx hb dL_law_977 rfl (lv_at hl 2 rfl) ?_
  refine jcallV (As := []) (rest := []) ⟨hx, hb, hml, hown, hts⟩ hK hP hA hS (c_X11_redo l D cI cL ad hJ sg0 tu0 jf_2_3) cw_RL_125 (jc_0 cI cL ad sg0 tu0) rfl ⟨Nat.le_of_ble_eq_true rfl, Nat.le_of_ble_eq_true rfl⟩ rfl rfl rfl hl.1 rfl (Nat.le_of_ble_eq_true rfl) dL_law_978 ⟨Nat.le_of_ble_eq_true rfl, Nat.le_of_ble_eq_true rfl⟩ (fun r2 σ1 τ1 H locs h1 hP hS => ?_)
  obtain ⟨f3, qr2⟩ := h1
  refine lv_aload_n hx hb dL_law_981 rfl (lv_at hl 1 rfl) ?_
  have m4 : σ1 55 4 = 0 := (by rw [f3 55 (by omega)]; exact jf_55_4)
  have m5 : σ1 55 5 = 0 := (by rw [f3 55 (by omega)]; exact jf_55_5)
  refine jcallV (As := []) (rest := [.int r2]) ⟨hx, hb, hml, hown, hts⟩ hK hP hA hS (c_X12_redo l D cI cL ad hJ σ1 τ1 m4 m5) cw_RL_128 (jc_55 cI cL ad σ1 τ1) rfl ⟨Nat.le_of_ble_eq_true rfl, Nat.le_of_ble_eq_true rfl⟩ rfl rfl rfl hl.1 rfl (Nat.le_of_ble_eq_true rfl) dL_law_982 ⟨Nat.le_of_ble_eq_true rfl, Nat.le_of_ble_eq_true rfl⟩ (fun r7 σ6 τ6 H locs h6 hP hS => ?_)
  obtain ⟨-, qr7⟩ := h6
  refine lv_icmp_eq (tgt := 1358) hx hb dL_law_985 (by decide) (fun _ => ?_) (fun c => absurd (qr2.trans qr7.symm) c)
  refine lv_iinc (v := 6) (lv' := [(3, .int 6), (2, .ref (ad 55)), (1, .ref (ad 0)), (0, .ref b)]) hx hb dL_law_1358 hl (k := 0) rfl (by decide) (by decide) rfl (fun ls hl => ?_)
  refine lv_goto (tgt := 18) hx hb dL_law_1361 (by decide) ?_
  refine lv_iload_n hx hb dL_law_18 rfl (lv_at hl 0 rfl) ?_
  refine lv_aload_n hx hb dL_law_19 rfl (lv_at hl 3 rfl) ?_
  refine va_slen hx hb hX hbl hbA hS dL_law_20 ?_
  refine jtopr (y := 6) (by rw [hL6]; rfl) ?_
  refine lv_bipush (v := 6) hx hb dL_law_21 (by decide) ?_
  refine lv_isub hx hb dL_law_23 ?_
  refine jtopr (y := 0) (by decide) ?_
  refine lv_icmp_gt (tgt := 1364) hx hb dL_law_24 (by decide) (fun _ => ?_) (fun c => absurd (by decide) c)
  refine lv_iconst (v := 1) hx hb dL_law_1364 (by decide) ?_
  refine va_forget (fun q hq => hS.2.2 q hq) ?_
  refine W.widen (k := 600000) (n := 7302250) (Nat.le_of_ble_eq_true rfl) (Nat.le_of_ble_eq_true rfl) ?_
  exact lw_ret hx hb hr hlocks dL_law_1365
set_option maxHeartbeats 4000000 in
set_option maxRecDepth 100000 in
theorem law_case_28 {p : Program} {e : Env} {s : State} {m : MethodId} {below : List Frame} {meth : Method} {c : Code} (l : Launch) {b L : Nat} {xs : Nat → Int32} {D : va_G} {cI cL : ClassId} {ad : Nat → Nat} (C0 : lw_At p s m meth c b L xs) (hJ : jD ad) (hA : ∀ q, jA ad q → s.heap.size ≤ q) (hK : jK D cI cL s) (hL6 : L = 6) {H : Heap} {locs : List Loc} (hS : va_S (fun q : Nat => s.heap.size ≤ q) s.heap H locs) {ls : Array Slot} (hP : jH D cI cL ad sg0 tu0 H) (hl : lv_has ls 4 [(3, .int 0), (2, .ref (ad 55)), (1, .ref (ad 0)), (0, .ref b)]) : W p l e room_1 s m #[Value.ref b] below meth c H locs 90 348600 (lw_Z below #[Value.ref b] s) (F0 m 990 ls []) := by
  obtain ⟨hx, hb, hr, hml, hown, hts0, hX, hbl, hlocks, hgv⟩ := C0
  have hts : ∀ w ∈ wsL_law, w.before #[Value.ref b] s = true := fun w h => hts0 w (wsL_law_in w h)
  have hbA : ¬ (fun q : Nat => s.heap.size ≤ q) b := Nat.not_le.mpr hbl
  have hown : s.vm.findClass RL = some m.cls := hown
  refine lv_aload_n hx hb dL_law_990 rfl (lv_at hl 2 rfl) ?_
  refine lv_aload_n hx hb dL_law_991 rfl (lv_at hl 3 rfl) ?_
  refine lv_iload_n hx hb dL_law_992 rfl (lv_at hl 0 rfl) ?_
  refine lv_iconst (v := 1) hx hb dL_law_993 (by decide) ?_
  refine lv_iadd hx hb dL_law_994 ?_
  refine jtopr (y := 1) (by decide) ?_
  refine va_sld hx hb hX hbl hbA hS (jin jz_1 (by omega) (by omega)) dL_law_995 ?_
  refine jtopr (y := xs 1) rfl ?_
  refine lv_aload_n hx hb dL_law_996 rfl (lv_at hl 3 rfl) ?_
  refine lv_iload_n hx hb dL_law_997 rfl (lv_at hl 0 rfl) ?_
  refine lv_iconst (v := 2) hx hb dL_law_998 (by decide) ?_
  refine lv_iadd hx hb dL_law_999 ?_
  refine jtopr (y := 2) (by decide) ?_
  refine va_sld hx hb hX hbl hbA hS (jin jz_2 (by omega) (by omega)) dL_law_1000 ?_
  refine jtopr (y := xs 2) rfl ?_
  refine lv_aload_n hx hb dL_law_1001 rfl (lv_at hl 3 rfl) ?_
  refine lv_iload_n hx hb dL_law_1002 rfl (lv_at hl 0 rfl) ?_
  refine lv_iconst (v := 3) hx hb dL_law_1003 (by decide) ?_
  refine lv_iadd hx hb dL_law_1004 ?_
  refine jtopr (y := 3) (by decide) ?_
  refine va_sld hx hb hX hbl hbA hS (jin jz_3 (by omega) (by omega)) dL_law_1005 ?_
  refine jtopr (y := xs 3) rfl ?_
  refine jcallV (As := [.int (xs 1), .int (xs 2), .int (xs 3)]) (rest := []) ⟨hx, hb, hml, hown, hts⟩ hK hP hA hS (c_X11_act l D cI cL ad hJ sg0 tu0 (xs 1) ((xs 1).toInt) rfl (xs 2) ((xs 2).toInt) rfl (xs 3) ((xs 3).toInt) rfl jf_38_0) cw_RL_129 (jc_0 cI cL ad sg0 tu0) rfl ⟨Nat.le_of_ble_eq_true rfl, Nat.le_of_ble_eq_true rfl⟩ rfl rfl rfl hl.1 rfl (Nat.le_of_ble_eq_true rfl) dL_law_1006 ⟨Nat.le_of_ble_eq_true rfl, Nat.le_of_ble_eq_true rfl⟩ (fun r2 σ1 τ1 H locs h1 hP hS => ?_)
  obtain ⟨f3, qr2⟩ := h1
  refine lv_aload_n hx hb dL_law_1009 rfl (lv_at hl 1 rfl) ?_
  refine lv_aload_n hx hb dL_law_1010 rfl (lv_at hl 3 rfl) ?_
  refine lv_iload_n hx hb dL_law_1011 rfl (lv_at hl 0 rfl) ?_
  refine lv_iconst (v := 1) hx hb dL_law_1012 (by decide) ?_
  refine lv_iadd hx hb dL_law_1013 ?_
  refine jtopr (y := 1) (by decide) ?_
  refine va_sld hx hb hX hbl hbA hS (jin jz_1 (by omega) (by omega)) dL_law_1014 ?_
  refine jtopr (y := xs 1) rfl ?_
  refine lv_aload_n hx hb dL_law_1015 rfl (lv_at hl 3 rfl) ?_
  refine lv_iload_n hx hb dL_law_1016 rfl (lv_at hl 0 rfl) ?_
  refine lv_iconst (v := 2) hx hb dL_law_1017 (by decide) ?_
  refine lv_iadd hx hb dL_law_1018 ?_
  refine jtopr (y := 2) (by decide) ?_
  refine va_sld hx hb hX hbl hbA hS (jin jz_2 (by omega) (by omega)) dL_law_1019 ?_
  refine jtopr (y := xs 2) rfl ?_
  refine lv_aload_n hx hb dL_law_1020 rfl (lv_at hl 3 rfl) ?_
  refine lv_iload_n hx hb dL_law_1021 rfl (lv_at hl 0 rfl) ?_
  refine lv_iconst (v := 3) hx hb dL_law_1022 (by decide) ?_
  refine lv_iadd hx hb dL_law_1023 ?_
  refine jtopr (y := 3) (by decide) ?_
  refine va_sld hx hb hX hbl hbA hS (jin jz_3 (by omega) (by omega)) dL_law_1024 ?_
  refine jtopr (y := xs 3) rfl ?_
  have m4 : σ1 55 32 = 0 := (by rw [f3 55 (by omega)]; exact jf_55_32)
  refine jcallV (As := [.int (xs 1), .int (xs 2), .int (xs 3)]) (rest := [.int r2]) ⟨hx, hb, hml, hown, hts⟩ hK hP hA hS (c_X12_act l D cI cL ad hJ σ1 τ1 (xs 1) ((xs 1).toInt) rfl (xs 2) ((xs 2).toInt) rfl (xs 3) ((xs 3).toInt) rfl m4) cw_RL_132 (jc_55 cI cL ad σ1 τ1) rfl ⟨Nat.le_of_ble_eq_true rfl, Nat.le_of_ble_eq_true rfl⟩ rfl rfl rfl hl.1 rfl (Nat.le_of_ble_eq_true rfl) dL_law_1025 ⟨Nat.le_of_ble_eq_true rfl, Nat.le_of_ble_eq_true rfl⟩ (fun r6 σ5 τ5 H locs h5 hP hS => ?_)
  obtain ⟨-, qr6⟩ := h5
  refine lv_icmp_eq (tgt := 1358) hx hb dL_law_1028 (by decide) (fun _ => ?_) (fun c => absurd (qr2.trans qr6.symm) c)
  refine lv_iinc (v := 6) (lv' := [(3, .int 6), (2, .ref (ad 55)), (1, .ref (ad 0)), (0, .ref b)]) hx hb dL_law_1358 hl (k := 0) rfl (by decide) (by decide) rfl (fun ls hl => ?_)
  refine lv_goto (tgt := 18) hx hb dL_law_1361 (by decide) ?_
  refine lv_iload_n hx hb dL_law_18 rfl (lv_at hl 0 rfl) ?_
  refine lv_aload_n hx hb dL_law_19 rfl (lv_at hl 3 rfl) ?_
  refine va_slen hx hb hX hbl hbA hS dL_law_20 ?_
  refine jtopr (y := 6) (by rw [hL6]; rfl) ?_
  refine lv_bipush (v := 6) hx hb dL_law_21 (by decide) ?_
  refine lv_isub hx hb dL_law_23 ?_
  refine jtopr (y := 0) (by decide) ?_
  refine lv_icmp_gt (tgt := 1364) hx hb dL_law_24 (by decide) (fun _ => ?_) (fun c => absurd (by decide) c)
  refine lv_iconst (v := 1) hx hb dL_law_1364 (by decide) ?_
  refine va_forget (fun q hq => hS.2.2 q hq) ?_
  refine W.widen (k := 600000) (n := 7302250) (Nat.le_of_ble_eq_true rfl) (Nat.le_of_ble_eq_true rfl) ?_
  exact lw_ret hx hb hr hlocks dL_law_1365
set_option maxHeartbeats 4000000 in
set_option maxRecDepth 100000 in
theorem law_case_29 {p : Program} {e : Env} {s : State} {m : MethodId} {below : List Frame} {meth : Method} {c : Code} (l : Launch) {b L : Nat} {xs : Nat → Int32} {D : va_G} {cI cL : ClassId} {ad : Nat → Nat} (C0 : lw_At p s m meth c b L xs) (hJ : jD ad) (hA : ∀ q, jA ad q → s.heap.size ≤ q) (hK : jK D cI cL s) (hL6 : L = 6) {H : Heap} {locs : List Loc} (hS : va_S (fun q : Nat => s.heap.size ≤ q) s.heap H locs) {ls : Array Slot} (hP : jH D cI cL ad sg0 tu0 H) (hl : lv_has ls 4 [(3, .int 0), (2, .ref (ad 55)), (1, .ref (ad 0)), (0, .ref b)]) : W p l e room_1 s m #[Value.ref b] below meth c H locs 90 348600 (lw_Z below #[Value.ref b] s) (F0 m 1033 ls []) := by
  obtain ⟨hx, hb, hr, hml, hown, hts0, hX, hbl, hlocks, hgv⟩ := C0
  have hts : ∀ w ∈ wsL_law, w.before #[Value.ref b] s = true := fun w h => hts0 w (wsL_law_in w h)
  have hbA : ¬ (fun q : Nat => s.heap.size ≤ q) b := Nat.not_le.mpr hbl
  have hown : s.vm.findClass RL = some m.cls := hown
  refine lv_aload_n hx hb dL_law_1033 rfl (lv_at hl 2 rfl) ?_
  refine lv_aload_n hx hb dL_law_1034 rfl (lv_at hl 3 rfl) ?_
  refine lv_iload_n hx hb dL_law_1035 rfl (lv_at hl 0 rfl) ?_
  refine lv_iconst (v := 1) hx hb dL_law_1036 (by decide) ?_
  refine lv_iadd hx hb dL_law_1037 ?_
  refine jtopr (y := 1) (by decide) ?_
  refine va_sld hx hb hX hbl hbA hS (jin jz_1 (by omega) (by omega)) dL_law_1038 ?_
  refine jtopr (y := xs 1) rfl ?_
  refine jcallV (As := [.int (xs 1)]) (rest := []) ⟨hx, hb, hml, hown, hts⟩ hK hP hA hS (c_X11_trace l D cI cL ad hJ sg0 tu0 (xs 1) ((xs 1).toInt) rfl jf_38_1) cw_RL_133 (jc_0 cI cL ad sg0 tu0) rfl ⟨Nat.le_of_ble_eq_true rfl, Nat.le_of_ble_eq_true rfl⟩ rfl rfl rfl hl.1 rfl (Nat.le_of_ble_eq_true rfl) dL_law_1039 ⟨Nat.le_of_ble_eq_true rfl, Nat.le_of_ble_eq_true rfl⟩ (fun r2 σ1 τ1 H locs h1 hP hS => ?_)
  obtain ⟨f3, qr2⟩ := h1
  refine lv_aload_n hx hb dL_law_1042 rfl (lv_at hl 1 rfl) ?_
  refine lv_aload_n hx hb dL_law_1043 rfl (lv_at hl 3 rfl) ?_
  refine lv_iload_n hx hb dL_law_1044 rfl (lv_at hl 0 rfl) ?_
  refine lv_iconst (v := 1) hx hb dL_law_1045 (by decide) ?_
  refine lv_iadd hx hb dL_law_1046 ?_
  refine jtopr (y := 1) (by decide) ?_
  refine va_sld hx hb hX hbl hbA hS (jin jz_1 (by omega) (by omega)) dL_law_1047 ?_
  refine jtopr (y := xs 1) rfl ?_
  have m4 : σ1 55 55 = 0 := (by rw [f3 55 (by omega)]; exact jf_55_55)
  refine jcallV (As := [.int (xs 1)]) (rest := [.int r2]) ⟨hx, hb, hml, hown, hts⟩ hK hP hA hS (c_X12_trace l D cI cL ad hJ σ1 τ1 (xs 1) ((xs 1).toInt) rfl m4) cw_RL_136 (jc_55 cI cL ad σ1 τ1) rfl ⟨Nat.le_of_ble_eq_true rfl, Nat.le_of_ble_eq_true rfl⟩ rfl rfl rfl hl.1 rfl (Nat.le_of_ble_eq_true rfl) dL_law_1048 ⟨Nat.le_of_ble_eq_true rfl, Nat.le_of_ble_eq_true rfl⟩ (fun r6 σ5 τ5 H locs h5 hP hS => ?_)
  obtain ⟨-, qr6⟩ := h5
  refine lv_icmp_eq (tgt := 1358) hx hb dL_law_1051 (by decide) (fun _ => ?_) (fun c => absurd (qr2.trans qr6.symm) c)
  refine lv_iinc (v := 6) (lv' := [(3, .int 6), (2, .ref (ad 55)), (1, .ref (ad 0)), (0, .ref b)]) hx hb dL_law_1358 hl (k := 0) rfl (by decide) (by decide) rfl (fun ls hl => ?_)
  refine lv_goto (tgt := 18) hx hb dL_law_1361 (by decide) ?_
  refine lv_iload_n hx hb dL_law_18 rfl (lv_at hl 0 rfl) ?_
  refine lv_aload_n hx hb dL_law_19 rfl (lv_at hl 3 rfl) ?_
  refine va_slen hx hb hX hbl hbA hS dL_law_20 ?_
  refine jtopr (y := 6) (by rw [hL6]; rfl) ?_
  refine lv_bipush (v := 6) hx hb dL_law_21 (by decide) ?_
  refine lv_isub hx hb dL_law_23 ?_
  refine jtopr (y := 0) (by decide) ?_
  refine lv_icmp_gt (tgt := 1364) hx hb dL_law_24 (by decide) (fun _ => ?_) (fun c => absurd (by decide) c)
  refine lv_iconst (v := 1) hx hb dL_law_1364 (by decide) ?_
  refine va_forget (fun q hq => hS.2.2 q hq) ?_
  refine W.widen (k := 600000) (n := 7302250) (Nat.le_of_ble_eq_true rfl) (Nat.le_of_ble_eq_true rfl) ?_
  exact lw_ret hx hb hr hlocks dL_law_1365
set_option maxHeartbeats 4000000 in
set_option maxRecDepth 100000 in
theorem law_case_30 {p : Program} {e : Env} {s : State} {m : MethodId} {below : List Frame} {meth : Method} {c : Code} (l : Launch) {b L : Nat} {xs : Nat → Int32} {D : va_G} {cI cL : ClassId} {ad : Nat → Nat} (C0 : lw_At p s m meth c b L xs) (hJ : jD ad) (hA : ∀ q, jA ad q → s.heap.size ≤ q) (hK : jK D cI cL s) (hL6 : L = 6) {H : Heap} {locs : List Loc} (hS : va_S (fun q : Nat => s.heap.size ≤ q) s.heap H locs) {ls : Array Slot} (hP : jH D cI cL ad sg0 tu0 H) (hl : lv_has ls 4 [(3, .int 0), (2, .ref (ad 55)), (1, .ref (ad 0)), (0, .ref b)]) : W p l e room_1 s m #[Value.ref b] below meth c H locs 90 348600 (lw_Z below #[Value.ref b] s) (F0 m 1056 ls []) := by
  obtain ⟨hx, hb, hr, hml, hown, hts0, hX, hbl, hlocks, hgv⟩ := C0
  have hts : ∀ w ∈ wsL_law, w.before #[Value.ref b] s = true := fun w h => hts0 w (wsL_law_in w h)
  have hbA : ¬ (fun q : Nat => s.heap.size ≤ q) b := Nat.not_le.mpr hbl
  have hown : s.vm.findClass RL = some m.cls := hown
  refine lv_aload_n hx hb dL_law_1056 rfl (lv_at hl 2 rfl) ?_
  refine lv_aload_n hx hb dL_law_1057 rfl (lv_at hl 3 rfl) ?_
  refine lv_iload_n hx hb dL_law_1058 rfl (lv_at hl 0 rfl) ?_
  refine lv_iconst (v := 1) hx hb dL_law_1059 (by decide) ?_
  refine lv_iadd hx hb dL_law_1060 ?_
  refine jtopr (y := 1) (by decide) ?_
  refine va_sld hx hb hX hbl hbA hS (jin jz_1 (by omega) (by omega)) dL_law_1061 ?_
  refine jtopr (y := xs 1) rfl ?_
  refine lv_aload_n hx hb dL_law_1062 rfl (lv_at hl 3 rfl) ?_
  refine lv_iload_n hx hb dL_law_1063 rfl (lv_at hl 0 rfl) ?_
  refine lv_iconst (v := 2) hx hb dL_law_1064 (by decide) ?_
  refine lv_iadd hx hb dL_law_1065 ?_
  refine jtopr (y := 2) (by decide) ?_
  refine va_sld hx hb hX hbl hbA hS (jin jz_2 (by omega) (by omega)) dL_law_1066 ?_
  refine jtopr (y := xs 2) rfl ?_
  refine jcallV (As := [.int (xs 1), .int (xs 2)]) (rest := []) ⟨hx, hb, hml, hown, hts⟩ hK hP hA hS (c_X11_keep l D cI cL ad hJ sg0 tu0 (xs 1) ((xs 1).toInt) rfl (xs 2) ((xs 2).toInt) rfl jf_38_0) cw_RL_137 (jc_0 cI cL ad sg0 tu0) rfl ⟨Nat.le_of_ble_eq_true rfl, Nat.le_of_ble_eq_true rfl⟩ rfl rfl rfl hl.1 rfl (Nat.le_of_ble_eq_true rfl) dL_law_1067 ⟨Nat.le_of_ble_eq_true rfl, Nat.le_of_ble_eq_true rfl⟩ (fun r2 σ1 τ1 H locs h1 hP hS => ?_)
  obtain ⟨f3, qr2⟩ := h1
  refine lv_aload_n hx hb dL_law_1070 rfl (lv_at hl 1 rfl) ?_
  refine lv_aload_n hx hb dL_law_1071 rfl (lv_at hl 3 rfl) ?_
  refine lv_iload_n hx hb dL_law_1072 rfl (lv_at hl 0 rfl) ?_
  refine lv_iconst (v := 1) hx hb dL_law_1073 (by decide) ?_
  refine lv_iadd hx hb dL_law_1074 ?_
  refine jtopr (y := 1) (by decide) ?_
  refine va_sld hx hb hX hbl hbA hS (jin jz_1 (by omega) (by omega)) dL_law_1075 ?_
  refine jtopr (y := xs 1) rfl ?_
  refine lv_aload_n hx hb dL_law_1076 rfl (lv_at hl 3 rfl) ?_
  refine lv_iload_n hx hb dL_law_1077 rfl (lv_at hl 0 rfl) ?_
  refine lv_iconst (v := 2) hx hb dL_law_1078 (by decide) ?_
  refine lv_iadd hx hb dL_law_1079 ?_
  refine jtopr (y := 2) (by decide) ?_
  refine va_sld hx hb hX hbl hbA hS (jin jz_2 (by omega) (by omega)) dL_law_1080 ?_
  refine jtopr (y := xs 2) rfl ?_
  have m4 : σ1 55 32 = 0 := (by rw [f3 55 (by omega)]; exact jf_55_32)
  refine jcallV (As := [.int (xs 1), .int (xs 2)]) (rest := [.int r2]) ⟨hx, hb, hml, hown, hts⟩ hK hP hA hS (c_X12_keep l D cI cL ad hJ σ1 τ1 (xs 1) ((xs 1).toInt) rfl (xs 2) ((xs 2).toInt) rfl m4) cw_RL_140 (jc_55 cI cL ad σ1 τ1) rfl ⟨Nat.le_of_ble_eq_true rfl, Nat.le_of_ble_eq_true rfl⟩ rfl rfl rfl hl.1 rfl (Nat.le_of_ble_eq_true rfl) dL_law_1081 ⟨Nat.le_of_ble_eq_true rfl, Nat.le_of_ble_eq_true rfl⟩ (fun r6 σ5 τ5 H locs h5 hP hS => ?_)
  obtain ⟨-, qr6⟩ := h5
  refine lv_icmp_eq (tgt := 1358) hx hb dL_law_1084 (by decide) (fun _ => ?_) (fun c => absurd (qr2.trans qr6.symm) c)
  refine lv_iinc (v := 6) (lv' := [(3, .int 6), (2, .ref (ad 55)), (1, .ref (ad 0)), (0, .ref b)]) hx hb dL_law_1358 hl (k := 0) rfl (by decide) (by decide) rfl (fun ls hl => ?_)
  refine lv_goto (tgt := 18) hx hb dL_law_1361 (by decide) ?_
  refine lv_iload_n hx hb dL_law_18 rfl (lv_at hl 0 rfl) ?_
  refine lv_aload_n hx hb dL_law_19 rfl (lv_at hl 3 rfl) ?_
  refine va_slen hx hb hX hbl hbA hS dL_law_20 ?_
  refine jtopr (y := 6) (by rw [hL6]; rfl) ?_
  refine lv_bipush (v := 6) hx hb dL_law_21 (by decide) ?_
  refine lv_isub hx hb dL_law_23 ?_
  refine jtopr (y := 0) (by decide) ?_
  refine lv_icmp_gt (tgt := 1364) hx hb dL_law_24 (by decide) (fun _ => ?_) (fun c => absurd (by decide) c)
  refine lv_iconst (v := 1) hx hb dL_law_1364 (by decide) ?_
  refine va_forget (fun q hq => hS.2.2 q hq) ?_
  refine W.widen (k := 600000) (n := 7302250) (Nat.le_of_ble_eq_true rfl) (Nat.le_of_ble_eq_true rfl) ?_
  exact lw_ret hx hb hr hlocks dL_law_1365
set_option maxHeartbeats 4000000 in
set_option maxRecDepth 100000 in
theorem law_case_31 {p : Program} {e : Env} {s : State} {m : MethodId} {below : List Frame} {meth : Method} {c : Code} (l : Launch) {b L : Nat} {xs : Nat → Int32} {D : va_G} {cI cL : ClassId} {ad : Nat → Nat} (C0 : lw_At p s m meth c b L xs) (hJ : jD ad) (hA : ∀ q, jA ad q → s.heap.size ≤ q) (hK : jK D cI cL s) (hL6 : L = 6) {H : Heap} {locs : List Loc} (hS : va_S (fun q : Nat => s.heap.size ≤ q) s.heap H locs) {ls : Array Slot} (hP : jH D cI cL ad sg0 tu0 H) (hl : lv_has ls 4 [(3, .int 0), (2, .ref (ad 55)), (1, .ref (ad 0)), (0, .ref b)]) : W p l e room_1 s m #[Value.ref b] below meth c H locs 90 348600 (lw_Z below #[Value.ref b] s) (F0 m 1089 ls []) := by
  obtain ⟨hx, hb, hr, hml, hown, hts0, hX, hbl, hlocks, hgv⟩ := C0
  have hts : ∀ w ∈ wsL_law, w.before #[Value.ref b] s = true := fun w h => hts0 w (wsL_law_in w h)
  have hbA : ¬ (fun q : Nat => s.heap.size ≤ q) b := Nat.not_le.mpr hbl
  have hown : s.vm.findClass RL = some m.cls := hown
  refine lv_aload_n hx hb dL_law_1089 rfl (lv_at hl 2 rfl) ?_
  refine lv_aload_n hx hb dL_law_1090 rfl (lv_at hl 3 rfl) ?_
  refine lv_iload_n hx hb dL_law_1091 rfl (lv_at hl 0 rfl) ?_
  refine lv_iconst (v := 1) hx hb dL_law_1092 (by decide) ?_
  refine lv_iadd hx hb dL_law_1093 ?_
  refine jtopr (y := 1) (by decide) ?_
  refine va_sld hx hb hX hbl hbA hS (jin jz_1 (by omega) (by omega)) dL_law_1094 ?_
  refine jtopr (y := xs 1) rfl ?_
  refine lv_aload_n hx hb dL_law_1095 rfl (lv_at hl 3 rfl) ?_
  refine lv_iload_n hx hb dL_law_1096 rfl (lv_at hl 0 rfl) ?_
  refine lv_iconst (v := 2) hx hb dL_law_1097 (by decide) ?_
  refine lv_iadd hx hb dL_law_1098 ?_
  refine jtopr (y := 2) (by decide) ?_
  refine va_sld hx hb hX hbl hbA hS (jin jz_2 (by omega) (by omega)) dL_law_1099 ?_
  refine jtopr (y := xs 2) rfl ?_
  refine lv_aload_n hx hb dL_law_1100 rfl (lv_at hl 3 rfl) ?_
  refine lv_iload_n hx hb dL_law_1101 rfl (lv_at hl 0 rfl) ?_
  refine lv_iconst (v := 3) hx hb dL_law_1102 (by decide) ?_
  refine lv_iadd hx hb dL_law_1103 ?_
  refine jtopr (y := 3) (by decide) ?_
  refine va_sld hx hb hX hbl hbA hS (jin jz_3 (by omega) (by omega)) dL_law_1104 ?_
  refine jtopr (y := xs 3) rfl ?_
  refine jcallV (As := [.int (xs 1), .int (xs 2), .int (xs 3)]) (rest := []) ⟨hx, hb, hml, hown, hts⟩ hK hP hA hS (c_X11_row l D cI cL ad hJ sg0 tu0 (xs 1) ((xs 1).toInt) rfl (xs 2) ((xs 2).toInt) rfl (xs 3) ((xs 3).toInt) rfl) cw_RL_141 (jc_0 cI cL ad sg0 tu0) rfl ⟨Nat.le_of_ble_eq_true rfl, Nat.le_of_ble_eq_true rfl⟩ rfl rfl rfl hl.1 rfl (Nat.le_of_ble_eq_true rfl) dL_law_1105 ⟨Nat.le_of_ble_eq_true rfl, Nat.le_of_ble_eq_true rfl⟩ (fun r2 σ1 τ1 H locs h1 hP hS => ?_)
  obtain ⟨f3, qr2⟩ := h1
  refine lv_aload_n hx hb dL_law_1108 rfl (lv_at hl 1 rfl) ?_
  refine lv_aload_n hx hb dL_law_1109 rfl (lv_at hl 3 rfl) ?_
  refine lv_iload_n hx hb dL_law_1110 rfl (lv_at hl 0 rfl) ?_
  refine lv_iconst (v := 1) hx hb dL_law_1111 (by decide) ?_
  refine lv_iadd hx hb dL_law_1112 ?_
  refine jtopr (y := 1) (by decide) ?_
  refine va_sld hx hb hX hbl hbA hS (jin jz_1 (by omega) (by omega)) dL_law_1113 ?_
  refine jtopr (y := xs 1) rfl ?_
  refine lv_aload_n hx hb dL_law_1114 rfl (lv_at hl 3 rfl) ?_
  refine lv_iload_n hx hb dL_law_1115 rfl (lv_at hl 0 rfl) ?_
  refine lv_iconst (v := 2) hx hb dL_law_1116 (by decide) ?_
  refine lv_iadd hx hb dL_law_1117 ?_
  refine jtopr (y := 2) (by decide) ?_
  refine va_sld hx hb hX hbl hbA hS (jin jz_2 (by omega) (by omega)) dL_law_1118 ?_
  refine jtopr (y := xs 2) rfl ?_
  refine lv_aload_n hx hb dL_law_1119 rfl (lv_at hl 3 rfl) ?_
  refine lv_iload_n hx hb dL_law_1120 rfl (lv_at hl 0 rfl) ?_
  refine lv_iconst (v := 3) hx hb dL_law_1121 (by decide) ?_
  refine lv_iadd hx hb dL_law_1122 ?_
  refine jtopr (y := 3) (by decide) ?_
  refine va_sld hx hb hX hbl hbA hS (jin jz_3 (by omega) (by omega)) dL_law_1123 ?_
  refine jtopr (y := xs 3) rfl ?_
  refine jcallV (As := [.int (xs 1), .int (xs 2), .int (xs 3)]) (rest := [.int r2]) ⟨hx, hb, hml, hown, hts⟩ hK hP hA hS (c_X12_row l D cI cL ad hJ σ1 τ1 (xs 1) ((xs 1).toInt) rfl (xs 2) ((xs 2).toInt) rfl (xs 3) ((xs 3).toInt) rfl) cw_RL_144 (jc_55 cI cL ad σ1 τ1) rfl ⟨Nat.le_of_ble_eq_true rfl, Nat.le_of_ble_eq_true rfl⟩ rfl rfl rfl hl.1 rfl (Nat.le_of_ble_eq_true rfl) dL_law_1124 ⟨Nat.le_of_ble_eq_true rfl, Nat.le_of_ble_eq_true rfl⟩ (fun r5 σ4 τ4 H locs h4 hP hS => ?_)
  obtain ⟨-, qr5⟩ := h4
  refine lv_icmp_eq (tgt := 1358) hx hb dL_law_1127 (by decide) (fun _ => ?_) (fun c => absurd (qr2.trans qr5.symm) c)
  refine lv_iinc (v := 6) (lv' := [(3, .int 6), (2, .ref (ad 55)), (1, .ref (ad 0)), (0, .ref b)]) hx hb dL_law_1358 hl (k := 0) rfl (by decide) (by decide) rfl (fun ls hl => ?_)
  refine lv_goto (tgt := 18) hx hb dL_law_1361 (by decide) ?_
  refine lv_iload_n hx hb dL_law_18 rfl (lv_at hl 0 rfl) ?_
  refine lv_aload_n hx hb dL_law_19 rfl (lv_at hl 3 rfl) ?_
  refine va_slen hx hb hX hbl hbA hS dL_law_20 ?_
  refine jtopr (y := 6) (by rw [hL6]; rfl) ?_
  refine lv_bipush (v := 6) hx hb dL_law_21 (by decide) ?_
  refine lv_isub hx hb dL_law_23 ?_
  refine jtopr (y := 0) (by decide) ?_
  refine lv_icmp_gt (tgt := 1364) hx hb dL_law_24 (by decide) (fun _ => ?_) (fun c => absurd (by decide) c)
  refine lv_iconst (v := 1) hx hb dL_law_1364 (by decide) ?_
  refine va_forget (fun q hq => hS.2.2 q hq) ?_
  refine W.widen (k := 600000) (n := 7302250) (Nat.le_of_ble_eq_true rfl) (Nat.le_of_ble_eq_true rfl) ?_
  exact lw_ret hx hb hr hlocks dL_law_1365
set_option maxHeartbeats 4000000 in
set_option maxRecDepth 100000 in
theorem law_case_32 {p : Program} {e : Env} {s : State} {m : MethodId} {below : List Frame} {meth : Method} {c : Code} (l : Launch) {b L : Nat} {xs : Nat → Int32} {D : va_G} {cI cL : ClassId} {ad : Nat → Nat} (C0 : lw_At p s m meth c b L xs) (hJ : jD ad) (hA : ∀ q, jA ad q → s.heap.size ≤ q) (hK : jK D cI cL s) (hL6 : L = 6) {H : Heap} {locs : List Loc} (hS : va_S (fun q : Nat => s.heap.size ≤ q) s.heap H locs) {ls : Array Slot} (hP : jH D cI cL ad sg0 tu0 H) (hl : lv_has ls 4 [(3, .int 0), (2, .ref (ad 55)), (1, .ref (ad 0)), (0, .ref b)]) : W p l e room_1 s m #[Value.ref b] below meth c H locs 90 348600 (lw_Z below #[Value.ref b] s) (F0 m 1132 ls []) := by
  obtain ⟨hx, hb, hr, hml, hown, hts0, hX, hbl, hlocks, hgv⟩ := C0
  have hts : ∀ w ∈ wsL_law, w.before #[Value.ref b] s = true := fun w h => hts0 w (wsL_law_in w h)
  have hbA : ¬ (fun q : Nat => s.heap.size ≤ q) b := Nat.not_le.mpr hbl
  have hown : s.vm.findClass RL = some m.cls := hown
  refine lv_aload_n hx hb dL_law_1132 rfl (lv_at hl 2 rfl) ?_
  refine lv_aload_n hx hb dL_law_1133 rfl (lv_at hl 3 rfl) ?_
  refine lv_iload_n hx hb dL_law_1134 rfl (lv_at hl 0 rfl) ?_
  refine lv_iconst (v := 1) hx hb dL_law_1135 (by decide) ?_
  refine lv_iadd hx hb dL_law_1136 ?_
  refine jtopr (y := 1) (by decide) ?_
  refine va_sld hx hb hX hbl hbA hS (jin jz_1 (by omega) (by omega)) dL_law_1137 ?_
  refine jtopr (y := xs 1) rfl ?_
  refine lv_aload_n hx hb dL_law_1138 rfl (lv_at hl 3 rfl) ?_
  refine lv_iload_n hx hb dL_law_1139 rfl (lv_at hl 0 rfl) ?_
  refine lv_iconst (v := 2) hx hb dL_law_1140 (by decide) ?_
  refine lv_iadd hx hb dL_law_1141 ?_
  refine jtopr (y := 2) (by decide) ?_
  refine va_sld hx hb hX hbl hbA hS (jin jz_2 (by omega) (by omega)) dL_law_1142 ?_
  refine jtopr (y := xs 2) rfl ?_
  refine lv_aload_n hx hb dL_law_1143 rfl (lv_at hl 3 rfl) ?_
  refine lv_iload_n hx hb dL_law_1144 rfl (lv_at hl 0 rfl) ?_
  refine lv_iconst (v := 3) hx hb dL_law_1145 (by decide) ?_
  refine lv_iadd hx hb dL_law_1146 ?_
  refine jtopr (y := 3) (by decide) ?_
  refine va_sld hx hb hX hbl hbA hS (jin jz_3 (by omega) (by omega)) dL_law_1147 ?_
  refine jtopr (y := xs 3) rfl ?_
  refine lv_i2l (v := (xs 3).toInt64) hx hb dL_law_1148 rfl ?_
  refine lv_bipush (v := 32) hx hb dL_law_1149 (by decide) ?_
  refine lv_lshl hx hb dL_law_1151 rfl ?_
  refine lv_topl (fun x1 ex1 => ?_)
  refine lv_aload_n hx hb dL_law_1152 rfl (lv_at hl 3 rfl) ?_
  refine lv_iload_n hx hb dL_law_1153 rfl (lv_at hl 0 rfl) ?_
  refine lv_iconst (v := 4) hx hb dL_law_1154 (by decide) ?_
  refine lv_iadd hx hb dL_law_1155 ?_
  refine jtopr (y := 4) (by decide) ?_
  refine va_sld hx hb hX hbl hbA hS (jin jz_4 (by omega) (by omega)) dL_law_1156 ?_
  refine jtopr (y := xs 4) rfl ?_
  refine lv_i2l (v := (xs 4).toInt64) hx hb dL_law_1157 rfl ?_
  refine lv_ldc2 (v := 4294967295) hx hb hown (hts _ kw_1_6) dL_law_1158 ?_
  refine lv_land hx hb dL_law_1161 ?_
  refine lv_topl (fun x2 ex2 => ?_)
  refine lv_lor hx hb dL_law_1162 ?_
  refine lv_topl (fun x3 ex3 => ?_)
  refine jcallV (As := [.int (xs 1), .int (xs 2), .long x3]) (rest := []) ⟨hx, hb, hml, hown, hts⟩ hK hP hA hS (c_X11_put l D cI cL ad hJ sg0 tu0 (xs 1) ((xs 1).toInt) rfl (xs 2) ((xs 2).toInt) rfl x3 (x3.toInt) rfl jfa_51) cw_RL_147 (jc_0 cI cL ad sg0 tu0) rfl ⟨Nat.le_of_ble_eq_true rfl, Nat.le_of_ble_eq_true rfl⟩ rfl rfl rfl hl.1 rfl (Nat.le_of_ble_eq_true rfl) dL_law_1163 ⟨Nat.le_of_ble_eq_true rfl, Nat.le_of_ble_eq_true rfl⟩ (fun r5 σ4 τ4 H locs h4 hP hS => ?_)
  obtain ⟨f6, qr5⟩ := h4
  refine lv_aload_n hx hb dL_law_1166 rfl (lv_at hl 1 rfl) ?_
  refine lv_aload_n hx hb dL_law_1167 rfl (lv_at hl 3 rfl) ?_
  refine lv_iload_n hx hb dL_law_1168 rfl (lv_at hl 0 rfl) ?_
  refine lv_iconst (v := 1) hx hb dL_law_1169 (by decide) ?_
  refine lv_iadd hx hb dL_law_1170 ?_
  refine jtopr (y := 1) (by decide) ?_
  refine va_sld hx hb hX hbl hbA hS (jin jz_1 (by omega) (by omega)) dL_law_1171 ?_
  refine jtopr (y := xs 1) rfl ?_
  refine lv_aload_n hx hb dL_law_1172 rfl (lv_at hl 3 rfl) ?_
  refine lv_iload_n hx hb dL_law_1173 rfl (lv_at hl 0 rfl) ?_
  refine lv_iconst (v := 2) hx hb dL_law_1174 (by decide) ?_
  refine lv_iadd hx hb dL_law_1175 ?_
  refine jtopr (y := 2) (by decide) ?_
  refine va_sld hx hb hX hbl hbA hS (jin jz_2 (by omega) (by omega)) dL_law_1176 ?_
  refine jtopr (y := xs 2) rfl ?_
  refine lv_aload_n hx hb dL_law_1177 rfl (lv_at hl 3 rfl) ?_
  refine lv_iload_n hx hb dL_law_1178 rfl (lv_at hl 0 rfl) ?_
  refine lv_iconst (v := 3) hx hb dL_law_1179 (by decide) ?_
  refine lv_iadd hx hb dL_law_1180 ?_
  refine jtopr (y := 3) (by decide) ?_
  refine va_sld hx hb hX hbl hbA hS (jin jz_3 (by omega) (by omega)) dL_law_1181 ?_
  refine jtopr (y := xs 3) rfl ?_
  refine lv_i2l (v := (xs 3).toInt64) hx hb dL_law_1182 rfl ?_
  refine lv_bipush (v := 32) hx hb dL_law_1183 (by decide) ?_
  refine lv_lshl hx hb dL_law_1185 rfl ?_
  refine lv_topl (fun x7 ex7 => ?_)
  refine lv_aload_n hx hb dL_law_1186 rfl (lv_at hl 3 rfl) ?_
  refine lv_iload_n hx hb dL_law_1187 rfl (lv_at hl 0 rfl) ?_
  refine lv_iconst (v := 4) hx hb dL_law_1188 (by decide) ?_
  refine lv_iadd hx hb dL_law_1189 ?_
  refine jtopr (y := 4) (by decide) ?_
  refine va_sld hx hb hX hbl hbA hS (jin jz_4 (by omega) (by omega)) dL_law_1190 ?_
  refine jtopr (y := xs 4) rfl ?_
  refine lv_i2l (v := (xs 4).toInt64) hx hb dL_law_1191 rfl ?_
  refine lv_ldc2 (v := 4294967295) hx hb hown (hts _ kw_1_6) dL_law_1192 ?_
  refine lv_land hx hb dL_law_1195 ?_
  refine lv_topl (fun x8 ex8 => ?_)
  refine lv_lor hx hb dL_law_1196 ?_
  refine lv_topl (fun x9 ex9 => ?_)
  have m10 : ∀ k : Nat, k < 6 → σ4 86 k = (-1) := (by rw [f6 86 (by omega)]; exact jfa_86)
  refine jcallV (As := [.int (xs 1), .int (xs 2), .long x9]) (rest := [.int r5]) ⟨hx, hb, hml, hown, hts⟩ hK hP hA hS (c_X12_put l D cI cL ad hJ σ4 τ4 (xs 1) ((xs 1).toInt) rfl (xs 2) ((xs 2).toInt) rfl x9 (x9.toInt) rfl m10) cw_RL_151 (jc_55 cI cL ad σ4 τ4) rfl ⟨Nat.le_of_ble_eq_true rfl, Nat.le_of_ble_eq_true rfl⟩ rfl rfl rfl hl.1 rfl (Nat.le_of_ble_eq_true rfl) dL_law_1197 ⟨Nat.le_of_ble_eq_true rfl, Nat.le_of_ble_eq_true rfl⟩ (fun r12 σ11 τ11 H locs h11 hP hS => ?_)
  obtain ⟨-, qr12⟩ := h11
  refine lv_icmp_eq (tgt := 1358) hx hb dL_law_1200 (by decide) (fun _ => ?_) (fun c => absurd (qr5.trans qr12.symm) c)
  refine lv_iinc (v := 6) (lv' := [(3, .int 6), (2, .ref (ad 55)), (1, .ref (ad 0)), (0, .ref b)]) hx hb dL_law_1358 hl (k := 0) rfl (by decide) (by decide) rfl (fun ls hl => ?_)
  refine lv_goto (tgt := 18) hx hb dL_law_1361 (by decide) ?_
  refine lv_iload_n hx hb dL_law_18 rfl (lv_at hl 0 rfl) ?_
  refine lv_aload_n hx hb dL_law_19 rfl (lv_at hl 3 rfl) ?_
  refine va_slen hx hb hX hbl hbA hS dL_law_20 ?_
  refine jtopr (y := 6) (by rw [hL6]; rfl) ?_
  refine lv_bipush (v := 6) hx hb dL_law_21 (by decide) ?_
  refine lv_isub hx hb dL_law_23 ?_
  refine jtopr (y := 0) (by decide) ?_
  refine lv_icmp_gt (tgt := 1364) hx hb dL_law_24 (by decide) (fun _ => ?_) (fun c => absurd (by decide) c)
  refine lv_iconst (v := 1) hx hb dL_law_1364 (by decide) ?_
  refine va_forget (fun q hq => hS.2.2 q hq) ?_
  refine W.widen (k := 600000) (n := 7302250) (Nat.le_of_ble_eq_true rfl) (Nat.le_of_ble_eq_true rfl) ?_
  exact lw_ret hx hb hr hlocks dL_law_1365
set_option maxHeartbeats 4000000 in
set_option maxRecDepth 100000 in
theorem law_case_33 {p : Program} {e : Env} {s : State} {m : MethodId} {below : List Frame} {meth : Method} {c : Code} (l : Launch) {b L : Nat} {xs : Nat → Int32} {D : va_G} {cI cL : ClassId} {ad : Nat → Nat} (C0 : lw_At p s m meth c b L xs) (hJ : jD ad) (hA : ∀ q, jA ad q → s.heap.size ≤ q) (hK : jK D cI cL s) (hL6 : L = 6) {H : Heap} {locs : List Loc} (hS : va_S (fun q : Nat => s.heap.size ≤ q) s.heap H locs) {ls : Array Slot} (hP : jH D cI cL ad sg0 tu0 H) (hl : lv_has ls 4 [(3, .int 0), (2, .ref (ad 55)), (1, .ref (ad 0)), (0, .ref b)]) : W p l e room_1 s m #[Value.ref b] below meth c H locs 90 348600 (lw_Z below #[Value.ref b] s) (F0 m 1205 ls []) := by
  obtain ⟨hx, hb, hr, hml, hown, hts0, hX, hbl, hlocks, hgv⟩ := C0
  have hts : ∀ w ∈ wsL_law, w.before #[Value.ref b] s = true := fun w h => hts0 w (wsL_law_in w h)
  have hbA : ¬ (fun q : Nat => s.heap.size ≤ q) b := Nat.not_le.mpr hbl
  have hown : s.vm.findClass RL = some m.cls := hown
  refine lv_aload_n hx hb dL_law_1205 rfl (lv_at hl 2 rfl) ?_
  refine lv_aload_n hx hb dL_law_1206 rfl (lv_at hl 3 rfl) ?_
  refine lv_iload_n hx hb dL_law_1207 rfl (lv_at hl 0 rfl) ?_
  refine lv_iconst (v := 1) hx hb dL_law_1208 (by decide) ?_
  refine lv_iadd hx hb dL_law_1209 ?_
  refine jtopr (y := 1) (by decide) ?_
  refine va_sld hx hb hX hbl hbA hS (jin jz_1 (by omega) (by omega)) dL_law_1210 ?_
  refine jtopr (y := xs 1) rfl ?_
  refine lv_aload_n hx hb dL_law_1211 rfl (lv_at hl 3 rfl) ?_
  refine lv_iload_n hx hb dL_law_1212 rfl (lv_at hl 0 rfl) ?_
  refine lv_iconst (v := 2) hx hb dL_law_1213 (by decide) ?_
  refine lv_iadd hx hb dL_law_1214 ?_
  refine jtopr (y := 2) (by decide) ?_
  refine va_sld hx hb hX hbl hbA hS (jin jz_2 (by omega) (by omega)) dL_law_1215 ?_
  refine jtopr (y := xs 2) rfl ?_
  refine jcallVl (As := [.int (xs 1), .int (xs 2)]) (rest := []) ⟨hx, hb, hml, hown, hts⟩ hK hP hA hS (c_X11_element l D cI cL ad hJ sg0 tu0 (xs 1) ((xs 1).toInt) rfl (xs 2) ((xs 2).toInt) rfl jfa_51) cw_RL_152 (jc_0 cI cL ad sg0 tu0) rfl ⟨Nat.le_of_ble_eq_true rfl, Nat.le_of_ble_eq_true rfl⟩ rfl rfl rfl hl.1 rfl (Nat.le_of_ble_eq_true rfl) dL_law_1216 ⟨Nat.le_of_ble_eq_true rfl, Nat.le_of_ble_eq_true rfl⟩ (fun r2 σ1 τ1 H locs h1 hP hS => ?_)
  obtain ⟨f3, qr2⟩ := h1
  refine lv_aload_n hx hb dL_law_1219 rfl (lv_at hl 1 rfl) ?_
  refine lv_aload_n hx hb dL_law_1220 rfl (lv_at hl 3 rfl) ?_
  refine lv_iload_n hx hb dL_law_1221 rfl (lv_at hl 0 rfl) ?_
  refine lv_iconst (v := 1) hx hb dL_law_1222 (by decide) ?_
  refine lv_iadd hx hb dL_law_1223 ?_
  refine jtopr (y := 1) (by decide) ?_
  refine va_sld hx hb hX hbl hbA hS (jin jz_1 (by omega) (by omega)) dL_law_1224 ?_
  refine jtopr (y := xs 1) rfl ?_
  refine lv_aload_n hx hb dL_law_1225 rfl (lv_at hl 3 rfl) ?_
  refine lv_iload_n hx hb dL_law_1226 rfl (lv_at hl 0 rfl) ?_
  refine lv_iconst (v := 2) hx hb dL_law_1227 (by decide) ?_
  refine lv_iadd hx hb dL_law_1228 ?_
  refine jtopr (y := 2) (by decide) ?_
  refine va_sld hx hb hX hbl hbA hS (jin jz_2 (by omega) (by omega)) dL_law_1229 ?_
  refine jtopr (y := xs 2) rfl ?_
  have m4 : ∀ k : Nat, k < 6 → σ1 86 k = (-1) := (by rw [f3 86 (by omega)]; exact jfa_86)
  refine jcallVl (As := [.int (xs 1), .int (xs 2)]) (rest := [.long r2]) ⟨hx, hb, hml, hown, hts⟩ hK hP hA hS (c_X12_element l D cI cL ad hJ σ1 τ1 (xs 1) ((xs 1).toInt) rfl (xs 2) ((xs 2).toInt) rfl m4) cw_RL_156 (jc_55 cI cL ad σ1 τ1) rfl ⟨Nat.le_of_ble_eq_true rfl, Nat.le_of_ble_eq_true rfl⟩ rfl rfl rfl hl.1 rfl (Nat.le_of_ble_eq_true rfl) dL_law_1230 ⟨Nat.le_of_ble_eq_true rfl, Nat.le_of_ble_eq_true rfl⟩ (fun r6 σ5 τ5 H locs h5 hP hS => ?_)
  obtain ⟨-, qr6⟩ := h5
  refine W.lcmp hx hb dL_law_1233 ?_
  refine lv_if_eq (tgt := 1358) hx hb dL_law_1234 (by decide) (fun _ => ?_) (fun c => absurd (by rw [qr2, qr6]; decide) c)
  refine lv_iinc (v := 6) (lv' := [(3, .int 6), (2, .ref (ad 55)), (1, .ref (ad 0)), (0, .ref b)]) hx hb dL_law_1358 hl (k := 0) rfl (by decide) (by decide) rfl (fun ls hl => ?_)
  refine lv_goto (tgt := 18) hx hb dL_law_1361 (by decide) ?_
  refine lv_iload_n hx hb dL_law_18 rfl (lv_at hl 0 rfl) ?_
  refine lv_aload_n hx hb dL_law_19 rfl (lv_at hl 3 rfl) ?_
  refine va_slen hx hb hX hbl hbA hS dL_law_20 ?_
  refine jtopr (y := 6) (by rw [hL6]; rfl) ?_
  refine lv_bipush (v := 6) hx hb dL_law_21 (by decide) ?_
  refine lv_isub hx hb dL_law_23 ?_
  refine jtopr (y := 0) (by decide) ?_
  refine lv_icmp_gt (tgt := 1364) hx hb dL_law_24 (by decide) (fun _ => ?_) (fun c => absurd (by decide) c)
  refine lv_iconst (v := 1) hx hb dL_law_1364 (by decide) ?_
  refine va_forget (fun q hq => hS.2.2 q hq) ?_
  refine W.widen (k := 600000) (n := 7302250) (Nat.le_of_ble_eq_true rfl) (Nat.le_of_ble_eq_true rfl) ?_
  exact lw_ret hx hb hr hlocks dL_law_1365
set_option maxHeartbeats 4000000 in
set_option maxRecDepth 100000 in
theorem law_case_34 {p : Program} {e : Env} {s : State} {m : MethodId} {below : List Frame} {meth : Method} {c : Code} (l : Launch) {b L : Nat} {xs : Nat → Int32} {D : va_G} {cI cL : ClassId} {ad : Nat → Nat} (C0 : lw_At p s m meth c b L xs) (hJ : jD ad) (hA : ∀ q, jA ad q → s.heap.size ≤ q) (hK : jK D cI cL s) (hL6 : L = 6) {H : Heap} {locs : List Loc} (hS : va_S (fun q : Nat => s.heap.size ≤ q) s.heap H locs) {ls : Array Slot} (hP : jH D cI cL ad sg0 tu0 H) (hl : lv_has ls 4 [(3, .int 0), (2, .ref (ad 55)), (1, .ref (ad 0)), (0, .ref b)]) : W p l e room_1 s m #[Value.ref b] below meth c H locs 90 348600 (lw_Z below #[Value.ref b] s) (F0 m 1239 ls []) := by
  obtain ⟨hx, hb, hr, hml, hown, hts0, hX, hbl, hlocks, hgv⟩ := C0
  have hts : ∀ w ∈ wsL_law, w.before #[Value.ref b] s = true := fun w h => hts0 w (wsL_law_in w h)
  have hbA : ¬ (fun q : Nat => s.heap.size ≤ q) b := Nat.not_le.mpr hbl
  have hown : s.vm.findClass RL = some m.cls := hown
  refine lv_aload_n hx hb dL_law_1239 rfl (lv_at hl 2 rfl) ?_
  refine lv_aload_n hx hb dL_law_1240 rfl (lv_at hl 3 rfl) ?_
  refine lv_iload_n hx hb dL_law_1241 rfl (lv_at hl 0 rfl) ?_
  refine lv_iconst (v := 1) hx hb dL_law_1242 (by decide) ?_
  refine lv_iadd hx hb dL_law_1243 ?_
  refine jtopr (y := 1) (by decide) ?_
  refine va_sld hx hb hX hbl hbA hS (jin jz_1 (by omega) (by omega)) dL_law_1244 ?_
  refine jtopr (y := xs 1) rfl ?_
  refine lv_aload_n hx hb dL_law_1245 rfl (lv_at hl 3 rfl) ?_
  refine lv_iload_n hx hb dL_law_1246 rfl (lv_at hl 0 rfl) ?_
  refine lv_iconst (v := 2) hx hb dL_law_1247 (by decide) ?_
  refine lv_iadd hx hb dL_law_1248 ?_
  refine jtopr (y := 2) (by decide) ?_
  refine va_sld hx hb hX hbl hbA hS (jin jz_2 (by omega) (by omega)) dL_law_1249 ?_
  refine jtopr (y := xs 2) rfl ?_
  refine lv_aload_n hx hb dL_law_1250 rfl (lv_at hl 3 rfl) ?_
  refine lv_iload_n hx hb dL_law_1251 rfl (lv_at hl 0 rfl) ?_
  refine lv_iconst (v := 3) hx hb dL_law_1252 (by decide) ?_
  refine lv_iadd hx hb dL_law_1253 ?_
  refine jtopr (y := 3) (by decide) ?_
  refine va_sld hx hb hX hbl hbA hS (jin jz_3 (by omega) (by omega)) dL_law_1254 ?_
  refine jtopr (y := xs 3) rfl ?_
  refine lv_aload_n hx hb dL_law_1255 rfl (lv_at hl 3 rfl) ?_
  refine lv_iload_n hx hb dL_law_1256 rfl (lv_at hl 0 rfl) ?_
  refine lv_iconst (v := 4) hx hb dL_law_1257 (by decide) ?_
  refine lv_iadd hx hb dL_law_1258 ?_
  refine jtopr (y := 4) (by decide) ?_
  refine va_sld hx hb hX hbl hbA hS (jin jz_4 (by omega) (by omega)) dL_law_1259 ?_
  refine jtopr (y := xs 4) rfl ?_
  refine lv_aload_n hx hb dL_law_1260 rfl (lv_at hl 3 rfl) ?_
  refine lv_iload_n hx hb dL_law_1261 rfl (lv_at hl 0 rfl) ?_
  refine lv_iconst (v := 5) hx hb dL_law_1262 (by decide) ?_
  refine lv_iadd hx hb dL_law_1263 ?_
  refine jtopr (y := 5) (by decide) ?_
  refine va_sld hx hb hX hbl hbA hS (jin jz_5 (by omega) (by omega)) dL_law_1264 ?_
  refine jtopr (y := xs 5) rfl ?_
  refine jcallV (As := [.int (xs 1), .int (xs 2), .int (xs 3), .int (xs 4), .int (xs 5)]) (rest := []) ⟨hx, hb, hml, hown, hts⟩ hK hP hA hS (c_X11_shift l D cI cL ad hJ sg0 tu0 (xs 1) ((xs 1).toInt) rfl (xs 2) ((xs 2).toInt) rfl (xs 3) ((xs 3).toInt) rfl (xs 4) ((xs 4).toInt) rfl (xs 5) ((xs 5).toInt) rfl jfa_51) cw_RL_157 (jc_0 cI cL ad sg0 tu0) rfl ⟨Nat.le_of_ble_eq_true rfl, Nat.le_of_ble_eq_true rfl⟩ rfl rfl rfl hl.1 rfl (Nat.le_of_ble_eq_true rfl) dL_law_1265 ⟨Nat.le_of_ble_eq_true rfl, Nat.le_of_ble_eq_true rfl⟩ (fun r2 σ1 τ1 H locs h1 hP hS => ?_)
  obtain ⟨f3, qr2⟩ := h1
  refine lv_aload_n hx hb dL_law_1268 rfl (lv_at hl 1 rfl) ?_
  refine lv_aload_n hx hb dL_law_1269 rfl (lv_at hl 3 rfl) ?_
  refine lv_iload_n hx hb dL_law_1270 rfl (lv_at hl 0 rfl) ?_
  refine lv_iconst (v := 1) hx hb dL_law_1271 (by decide) ?_
  refine lv_iadd hx hb dL_law_1272 ?_
  refine jtopr (y := 1) (by decide) ?_
  refine va_sld hx hb hX hbl hbA hS (jin jz_1 (by omega) (by omega)) dL_law_1273 ?_
  refine jtopr (y := xs 1) rfl ?_
  refine lv_aload_n hx hb dL_law_1274 rfl (lv_at hl 3 rfl) ?_
  refine lv_iload_n hx hb dL_law_1275 rfl (lv_at hl 0 rfl) ?_
  refine lv_iconst (v := 2) hx hb dL_law_1276 (by decide) ?_
  refine lv_iadd hx hb dL_law_1277 ?_
  refine jtopr (y := 2) (by decide) ?_
  refine va_sld hx hb hX hbl hbA hS (jin jz_2 (by omega) (by omega)) dL_law_1278 ?_
  refine jtopr (y := xs 2) rfl ?_
  refine lv_aload_n hx hb dL_law_1279 rfl (lv_at hl 3 rfl) ?_
  refine lv_iload_n hx hb dL_law_1280 rfl (lv_at hl 0 rfl) ?_
  refine lv_iconst (v := 3) hx hb dL_law_1281 (by decide) ?_
  refine lv_iadd hx hb dL_law_1282 ?_
  refine jtopr (y := 3) (by decide) ?_
  refine va_sld hx hb hX hbl hbA hS (jin jz_3 (by omega) (by omega)) dL_law_1283 ?_
  refine jtopr (y := xs 3) rfl ?_
  refine lv_aload_n hx hb dL_law_1284 rfl (lv_at hl 3 rfl) ?_
  refine lv_iload_n hx hb dL_law_1285 rfl (lv_at hl 0 rfl) ?_
  refine lv_iconst (v := 4) hx hb dL_law_1286 (by decide) ?_
  refine lv_iadd hx hb dL_law_1287 ?_
  refine jtopr (y := 4) (by decide) ?_
  refine va_sld hx hb hX hbl hbA hS (jin jz_4 (by omega) (by omega)) dL_law_1288 ?_
  refine jtopr (y := xs 4) rfl ?_
  refine lv_aload_n hx hb dL_law_1289 rfl (lv_at hl 3 rfl) ?_
  refine lv_iload_n hx hb dL_law_1290 rfl (lv_at hl 0 rfl) ?_
  refine lv_iconst (v := 5) hx hb dL_law_1291 (by decide) ?_
  refine lv_iadd hx hb dL_law_1292 ?_
  refine jtopr (y := 5) (by decide) ?_
  refine va_sld hx hb hX hbl hbA hS (jin jz_5 (by omega) (by omega)) dL_law_1293 ?_
  refine jtopr (y := xs 5) rfl ?_
  have m4 : ∀ k : Nat, k < 6 → σ1 86 k = (-1) := (by rw [f3 86 (by omega)]; exact jfa_86)
  refine jcallV (As := [.int (xs 1), .int (xs 2), .int (xs 3), .int (xs 4), .int (xs 5)]) (rest := [.int r2]) ⟨hx, hb, hml, hown, hts⟩ hK hP hA hS (c_X12_shift l D cI cL ad hJ σ1 τ1 (xs 1) ((xs 1).toInt) rfl (xs 2) ((xs 2).toInt) rfl (xs 3) ((xs 3).toInt) rfl (xs 4) ((xs 4).toInt) rfl (xs 5) ((xs 5).toInt) rfl m4) cw_RL_161 (jc_55 cI cL ad σ1 τ1) rfl ⟨Nat.le_of_ble_eq_true rfl, Nat.le_of_ble_eq_true rfl⟩ rfl rfl rfl hl.1 rfl (Nat.le_of_ble_eq_true rfl) dL_law_1294 ⟨Nat.le_of_ble_eq_true rfl, Nat.le_of_ble_eq_true rfl⟩ (fun r6 σ5 τ5 H locs h5 hP hS => ?_)
  obtain ⟨-, qr6⟩ := h5
  refine lv_icmp_eq (tgt := 1358) hx hb dL_law_1297 (by decide) (fun _ => ?_) (fun c => absurd (qr2.trans qr6.symm) c)
  refine lv_iinc (v := 6) (lv' := [(3, .int 6), (2, .ref (ad 55)), (1, .ref (ad 0)), (0, .ref b)]) hx hb dL_law_1358 hl (k := 0) rfl (by decide) (by decide) rfl (fun ls hl => ?_)
  refine lv_goto (tgt := 18) hx hb dL_law_1361 (by decide) ?_
  refine lv_iload_n hx hb dL_law_18 rfl (lv_at hl 0 rfl) ?_
  refine lv_aload_n hx hb dL_law_19 rfl (lv_at hl 3 rfl) ?_
  refine va_slen hx hb hX hbl hbA hS dL_law_20 ?_
  refine jtopr (y := 6) (by rw [hL6]; rfl) ?_
  refine lv_bipush (v := 6) hx hb dL_law_21 (by decide) ?_
  refine lv_isub hx hb dL_law_23 ?_
  refine jtopr (y := 0) (by decide) ?_
  refine lv_icmp_gt (tgt := 1364) hx hb dL_law_24 (by decide) (fun _ => ?_) (fun c => absurd (by decide) c)
  refine lv_iconst (v := 1) hx hb dL_law_1364 (by decide) ?_
  refine va_forget (fun q hq => hS.2.2 q hq) ?_
  refine W.widen (k := 600000) (n := 7302250) (Nat.le_of_ble_eq_true rfl) (Nat.le_of_ble_eq_true rfl) ?_
  exact lw_ret hx hb hr hlocks dL_law_1365
set_option maxHeartbeats 4000000 in
set_option maxRecDepth 100000 in
theorem law_case_35 {p : Program} {e : Env} {s : State} {m : MethodId} {below : List Frame} {meth : Method} {c : Code} (l : Launch) {b L : Nat} {xs : Nat → Int32} {D : va_G} {cI cL : ClassId} {ad : Nat → Nat} (C0 : lw_At p s m meth c b L xs) (hJ : jD ad) (hA : ∀ q, jA ad q → s.heap.size ≤ q) (hK : jK D cI cL s) (hL6 : L = 6) {H : Heap} {locs : List Loc} (hS : va_S (fun q : Nat => s.heap.size ≤ q) s.heap H locs) {ls : Array Slot} (hP : jH D cI cL ad sg0 tu0 H) (hl : lv_has ls 4 [(3, .int 0), (2, .ref (ad 55)), (1, .ref (ad 0)), (0, .ref b)]) : W p l e room_1 s m #[Value.ref b] below meth c H locs 90 348600 (lw_Z below #[Value.ref b] s) (F0 m 1302 ls []) := by
  obtain ⟨hx, hb, hr, hml, hown, hts0, hX, hbl, hlocks, hgv⟩ := C0
  have hts : ∀ w ∈ wsL_law, w.before #[Value.ref b] s = true := fun w h => hts0 w (wsL_law_in w h)
  have hbA : ¬ (fun q : Nat => s.heap.size ≤ q) b := Nat.not_le.mpr hbl
  have hown : s.vm.findClass RL = some m.cls := hown
  refine lv_aload_n hx hb dL_law_1302 rfl (lv_at hl 2 rfl) ?_
  refine lv_aload_n hx hb dL_law_1303 rfl (lv_at hl 3 rfl) ?_
  refine lv_iload_n hx hb dL_law_1304 rfl (lv_at hl 0 rfl) ?_
  refine lv_iconst (v := 1) hx hb dL_law_1305 (by decide) ?_
  refine lv_iadd hx hb dL_law_1306 ?_
  refine jtopr (y := 1) (by decide) ?_
  refine va_sld hx hb hX hbl hbA hS (jin jz_1 (by omega) (by omega)) dL_law_1307 ?_
  refine jtopr (y := xs 1) rfl ?_
  refine lv_aload_n hx hb dL_law_1308 rfl (lv_at hl 3 rfl) ?_
  refine lv_iload_n hx hb dL_law_1309 rfl (lv_at hl 0 rfl) ?_
  refine lv_iconst (v := 2) hx hb dL_law_1310 (by decide) ?_
  refine lv_iadd hx hb dL_law_1311 ?_
  refine jtopr (y := 2) (by decide) ?_
  refine va_sld hx hb hX hbl hbA hS (jin jz_2 (by omega) (by omega)) dL_law_1312 ?_
  refine jtopr (y := xs 2) rfl ?_
  refine jcallV (As := [.int (xs 1), .int (xs 2)]) (rest := []) ⟨hx, hb, hml, hown, hts⟩ hK hP hA hS (c_X11_taken l D cI cL ad hJ sg0 tu0 (xs 1) ((xs 1).toInt) rfl (xs 2) ((xs 2).toInt) rfl jfa_51) cw_RL_162 (jc_0 cI cL ad sg0 tu0) rfl ⟨Nat.le_of_ble_eq_true rfl, Nat.le_of_ble_eq_true rfl⟩ rfl rfl rfl hl.1 rfl (Nat.le_of_ble_eq_true rfl) dL_law_1313 ⟨Nat.le_of_ble_eq_true rfl, Nat.le_of_ble_eq_true rfl⟩ (fun r2 σ1 τ1 H locs h1 hP hS => ?_)
  obtain ⟨f3, qr2⟩ := h1
  refine lv_aload_n hx hb dL_law_1316 rfl (lv_at hl 1 rfl) ?_
  refine lv_aload_n hx hb dL_law_1317 rfl (lv_at hl 3 rfl) ?_
  refine lv_iload_n hx hb dL_law_1318 rfl (lv_at hl 0 rfl) ?_
  refine lv_iconst (v := 1) hx hb dL_law_1319 (by decide) ?_
  refine lv_iadd hx hb dL_law_1320 ?_
  refine jtopr (y := 1) (by decide) ?_
  refine va_sld hx hb hX hbl hbA hS (jin jz_1 (by omega) (by omega)) dL_law_1321 ?_
  refine jtopr (y := xs 1) rfl ?_
  refine lv_aload_n hx hb dL_law_1322 rfl (lv_at hl 3 rfl) ?_
  refine lv_iload_n hx hb dL_law_1323 rfl (lv_at hl 0 rfl) ?_
  refine lv_iconst (v := 2) hx hb dL_law_1324 (by decide) ?_
  refine lv_iadd hx hb dL_law_1325 ?_
  refine jtopr (y := 2) (by decide) ?_
  refine va_sld hx hb hX hbl hbA hS (jin jz_2 (by omega) (by omega)) dL_law_1326 ?_
  refine jtopr (y := xs 2) rfl ?_
  have m4 : ∀ k : Nat, k < 6 → σ1 86 k = (-1) := (by rw [f3 86 (by omega)]; exact jfa_86)
  refine jcallV (As := [.int (xs 1), .int (xs 2)]) (rest := [.int r2]) ⟨hx, hb, hml, hown, hts⟩ hK hP hA hS (c_X12_taken l D cI cL ad hJ σ1 τ1 (xs 1) ((xs 1).toInt) rfl (xs 2) ((xs 2).toInt) rfl m4) cw_RL_165 (jc_55 cI cL ad σ1 τ1) rfl ⟨Nat.le_of_ble_eq_true rfl, Nat.le_of_ble_eq_true rfl⟩ rfl rfl rfl hl.1 rfl (Nat.le_of_ble_eq_true rfl) dL_law_1327 ⟨Nat.le_of_ble_eq_true rfl, Nat.le_of_ble_eq_true rfl⟩ (fun r6 σ5 τ5 H locs h5 hP hS => ?_)
  obtain ⟨-, qr6⟩ := h5
  refine lv_icmp_eq (tgt := 1358) hx hb dL_law_1330 (by decide) (fun _ => ?_) (fun c => absurd (qr2.trans qr6.symm) c)
  refine lv_iinc (v := 6) (lv' := [(3, .int 6), (2, .ref (ad 55)), (1, .ref (ad 0)), (0, .ref b)]) hx hb dL_law_1358 hl (k := 0) rfl (by decide) (by decide) rfl (fun ls hl => ?_)
  refine lv_goto (tgt := 18) hx hb dL_law_1361 (by decide) ?_
  refine lv_iload_n hx hb dL_law_18 rfl (lv_at hl 0 rfl) ?_
  refine lv_aload_n hx hb dL_law_19 rfl (lv_at hl 3 rfl) ?_
  refine va_slen hx hb hX hbl hbA hS dL_law_20 ?_
  refine jtopr (y := 6) (by rw [hL6]; rfl) ?_
  refine lv_bipush (v := 6) hx hb dL_law_21 (by decide) ?_
  refine lv_isub hx hb dL_law_23 ?_
  refine jtopr (y := 0) (by decide) ?_
  refine lv_icmp_gt (tgt := 1364) hx hb dL_law_24 (by decide) (fun _ => ?_) (fun c => absurd (by decide) c)
  refine lv_iconst (v := 1) hx hb dL_law_1364 (by decide) ?_
  refine va_forget (fun q hq => hS.2.2 q hq) ?_
  refine W.widen (k := 600000) (n := 7302250) (Nat.le_of_ble_eq_true rfl) (Nat.le_of_ble_eq_true rfl) ?_
  exact lw_ret hx hb hr hlocks dL_law_1365
set_option maxHeartbeats 4000000 in
set_option maxRecDepth 100000 in
theorem law_case_36 {p : Program} {e : Env} {s : State} {m : MethodId} {below : List Frame} {meth : Method} {c : Code} (l : Launch) {b L : Nat} {xs : Nat → Int32} {D : va_G} {cI cL : ClassId} {ad : Nat → Nat} (C0 : lw_At p s m meth c b L xs) (hJ : jD ad) (hA : ∀ q, jA ad q → s.heap.size ≤ q) (hK : jK D cI cL s) (hL6 : L = 6) {H : Heap} {locs : List Loc} (hS : va_S (fun q : Nat => s.heap.size ≤ q) s.heap H locs) {ls : Array Slot} (hP : jH D cI cL ad sg0 tu0 H) (hl : lv_has ls 4 [(3, .int 0), (2, .ref (ad 55)), (1, .ref (ad 0)), (0, .ref b)]) : W p l e room_1 s m #[Value.ref b] below meth c H locs 90 348600 (lw_Z below #[Value.ref b] s) (F0 m 1335 ls []) := by
  obtain ⟨hx, hb, hr, hml, hown, hts0, hX, hbl, hlocks, hgv⟩ := C0
  have hts : ∀ w ∈ wsL_law, w.before #[Value.ref b] s = true := fun w h => hts0 w (wsL_law_in w h)
  have hbA : ¬ (fun q : Nat => s.heap.size ≤ q) b := Nat.not_le.mpr hbl
  have hown : s.vm.findClass RL = some m.cls := hown
  refine lv_aload_n hx hb dL_law_1335 rfl (lv_at hl 2 rfl) ?_
  refine lv_aload_n hx hb dL_law_1336 rfl (lv_at hl 3 rfl) ?_
  refine lv_iload_n hx hb dL_law_1337 rfl (lv_at hl 0 rfl) ?_
  refine lv_iconst (v := 1) hx hb dL_law_1338 (by decide) ?_
  refine lv_iadd hx hb dL_law_1339 ?_
  refine jtopr (y := 1) (by decide) ?_
  refine va_sld hx hb hX hbl hbA hS (jin jz_1 (by omega) (by omega)) dL_law_1340 ?_
  refine jtopr (y := xs 1) rfl ?_
  refine jcallV (As := [.int (xs 1)]) (rest := []) ⟨hx, hb, hml, hown, hts⟩ hK hP hA hS (c_X11_count l D cI cL ad hJ sg0 tu0 (xs 1) ((xs 1).toInt) rfl jf_2_0 jf_2_2 jf_9_0 jf_38_0 jf_38_1 jf_47_0) cw_RL_166 (jc_0 cI cL ad sg0 tu0) rfl ⟨Nat.le_of_ble_eq_true rfl, Nat.le_of_ble_eq_true rfl⟩ rfl rfl rfl hl.1 rfl (Nat.le_of_ble_eq_true rfl) dL_law_1341 ⟨Nat.le_of_ble_eq_true rfl, Nat.le_of_ble_eq_true rfl⟩ (fun r2 σ1 τ1 H locs h1 hP hS => ?_)
  obtain ⟨f3, qr2⟩ := h1
  refine lv_aload_n hx hb dL_law_1344 rfl (lv_at hl 1 rfl) ?_
  refine lv_aload_n hx hb dL_law_1345 rfl (lv_at hl 3 rfl) ?_
  refine lv_iload_n hx hb dL_law_1346 rfl (lv_at hl 0 rfl) ?_
  refine lv_iconst (v := 1) hx hb dL_law_1347 (by decide) ?_
  refine lv_iadd hx hb dL_law_1348 ?_
  refine jtopr (y := 1) (by decide) ?_
  refine va_sld hx hb hX hbl hbA hS (jin jz_1 (by omega) (by omega)) dL_law_1349 ?_
  refine jtopr (y := xs 1) rfl ?_
  have m4 : σ1 55 5 = 0 := (by rw [f3 55 (by omega)]; exact jf_55_5)
  have m5 : σ1 55 6 = 0 := (by rw [f3 55 (by omega)]; exact jf_55_6)
  have m6 : σ1 55 15 = 0 := (by rw [f3 55 (by omega)]; exact jf_55_15)
  have m7 : σ1 55 32 = 0 := (by rw [f3 55 (by omega)]; exact jf_55_32)
  have m8 : σ1 55 47 = 0 := (by rw [f3 55 (by omega)]; exact jf_55_47)
  have m9 : σ1 55 55 = 0 := (by rw [f3 55 (by omega)]; exact jf_55_55)
  refine jcallV (As := [.int (xs 1)]) (rest := [.int r2]) ⟨hx, hb, hml, hown, hts⟩ hK hP hA hS (c_X12_count l D cI cL ad hJ σ1 τ1 (xs 1) ((xs 1).toInt) rfl m4 m5 m6 m7 m8 m9) cw_RL_169 (jc_55 cI cL ad σ1 τ1) rfl ⟨Nat.le_of_ble_eq_true rfl, Nat.le_of_ble_eq_true rfl⟩ rfl rfl rfl hl.1 rfl (Nat.le_of_ble_eq_true rfl) dL_law_1350 ⟨Nat.le_of_ble_eq_true rfl, Nat.le_of_ble_eq_true rfl⟩ (fun r11 σ10 τ10 H locs h10 hP hS => ?_)
  obtain ⟨-, qr11⟩ := h10
  refine lv_icmp_eq (tgt := 1358) hx hb dL_law_1353 (by decide) (fun _ => ?_) (fun c => absurd (qr2.trans qr11.symm) c)
  refine lv_iinc (v := 6) (lv' := [(3, .int 6), (2, .ref (ad 55)), (1, .ref (ad 0)), (0, .ref b)]) hx hb dL_law_1358 hl (k := 0) rfl (by decide) (by decide) rfl (fun ls hl => ?_)
  refine lv_goto (tgt := 18) hx hb dL_law_1361 (by decide) ?_
  refine lv_iload_n hx hb dL_law_18 rfl (lv_at hl 0 rfl) ?_
  refine lv_aload_n hx hb dL_law_19 rfl (lv_at hl 3 rfl) ?_
  refine va_slen hx hb hX hbl hbA hS dL_law_20 ?_
  refine jtopr (y := 6) (by rw [hL6]; rfl) ?_
  refine lv_bipush (v := 6) hx hb dL_law_21 (by decide) ?_
  refine lv_isub hx hb dL_law_23 ?_
  refine jtopr (y := 0) (by decide) ?_
  refine lv_icmp_gt (tgt := 1364) hx hb dL_law_24 (by decide) (fun _ => ?_) (fun c => absurd (by decide) c)
  refine lv_iconst (v := 1) hx hb dL_law_1364 (by decide) ?_
  refine va_forget (fun q hq => hS.2.2 q hq) ?_
  refine W.widen (k := 600000) (n := 7302250) (Nat.le_of_ble_eq_true rfl) (Nat.le_of_ble_eq_true rfl) ?_
  exact lw_ret hx hb hr hlocks dL_law_1365
set_option maxHeartbeats 4000000 in
set_option maxRecDepth 100000 in
theorem law_loop {p : Program} {e : Env} {s : State} {m : MethodId} {below : List Frame} {meth : Method} {c : Code} (l : Launch) {b L : Nat} {xs : Nat → Int32} {D : va_G} {cI cL : ClassId} {ad : Nat → Nat} (C0 : lw_At p s m meth c b L xs) (hJ : jD ad) (hA : ∀ q, jA ad q → s.heap.size ≤ q) (hK : jK D cI cL s) (hL : L ≤ 6) {H : Heap} {locs : List Loc} (hS : va_S (fun q : Nat => s.heap.size ≤ q) s.heap H locs) {ls : Array Slot} (hP : jH D cI cL ad sg0 tu0 H) (hl : lv_has ls 4 [(3, .int 0), (2, .ref (ad 55)), (1, .ref (ad 0)), (0, .ref b)]) : W p l e room_1 s m #[Value.ref b] below meth c H locs 90 348600 (lw_Z below #[Value.ref b] s) (F0 m 18 ls []) := by
  have C1 := C0
  obtain ⟨hx, hb, hr, hml, hown, hts0, hX, hbl, hlocks, hgv⟩ := C0
  have hts : ∀ w ∈ wsL_law, w.before #[Value.ref b] s = true := fun w h => hts0 w (wsL_law_in w h)
  have hbA : ¬ (fun q : Nat => s.heap.size ≤ q) b := Nat.not_le.mpr hbl
  have hown : s.vm.findClass RL = some m.cls := hown
  refine lv_iload_n hx hb dL_law_18 rfl (lv_at hl 0 rfl) ?_
  refine lv_aload_n hx hb dL_law_19 rfl (lv_at hl 3 rfl) ?_
  refine va_slen hx hb hX hbl hbA hS dL_law_20 ?_
  refine lv_bipush (v := 6) hx hb dL_law_21 (by decide) ?_
  refine lv_isub hx hb dL_law_23 ?_
  refine lv_topi (fun x1 ex1 => ?_)
  have hLi : (Int32.ofNat L).toInt = (L : Int) := nI_toInt (by omega)
  have tx1 : x1.toInt = (L : Int) - 6 := jsub ex1 hLi jz_6 (by omega) (by omega)
  refine lv_icmp_gt (tgt := 1364) hx hb dL_law_24 (by decide) (fun c1 => ?_) (fun c1 => ?_)
  · refine lv_iconst (v := 1) hx hb dL_law_1364 (by decide) ?_
    refine va_forget (fun q hq => hS.2.2 q hq) ?_
    refine W.widen (k := 600000) (n := 7302250) (Nat.le_of_ble_eq_true rfl) (Nat.le_of_ble_eq_true rfl) ?_
    exact lw_ret hx hb hr hlocks dL_law_1365
  · have k1 := jnlt c1 tx1 jz_0
    have hL6 : L = 6 := by omega
    refine lv_aload_n hx hb dL_law_27 rfl (lv_at hl 3 rfl) ?_
    refine lv_iload_n hx hb dL_law_28 rfl (lv_at hl 0 rfl) ?_
    refine va_sld hx hb hX hbl hbA hS (jin jz_0 (by omega) (by omega)) dL_law_29 ?_
    refine lv_bipush (v := 63) hx hb dL_law_30 (by decide) ?_
    refine lv_iand hx hb dL_law_32 ?_
    refine lv_topi (fun x2 ex2 => ?_)
    have gx2 : 0 ≤ x2.toInt ∧ x2.toInt ≤ 63 := jmask ex2 6 (by decide) (by decide)
    by_cases e0 : x2 = 0
    · refine jtopr e0 ?_
      refine lv_tableIn (off := 163) (tgt := 196) hx hb dL_law_33 (by decide) (by decide) (by decide) (by decide) ?_
      exact law_case_0 l C1 hJ hA hK hL6 hS hP hl
    have ke0 := jne e0 rfl jz_0
    by_cases e1 : x2 = 1
    · refine jtopr e1 ?_
      refine lv_tableIn (off := 206) (tgt := 239) hx hb dL_law_33 (by decide) (by decide) (by decide) (by decide) ?_
      exact law_case_1 l C1 hJ hA hK hL6 hS hP hl
    have ke1 := jne e1 rfl jz_1
    by_cases e2 : x2 = 2
    · refine jtopr e2 ?_
      refine lv_tableIn (off := 249) (tgt := 282) hx hb dL_law_33 (by decide) (by decide) (by decide) (by decide) ?_
      exact law_case_2 l C1 hJ hA hK hL6 hS hP hl
    have ke2 := jne e2 rfl jz_2
    by_cases e3 : x2 = 3
    · refine jtopr e3 ?_
      refine lv_tableIn (off := 292) (tgt := 325) hx hb dL_law_33 (by decide) (by decide) (by decide) (by decide) ?_
      exact law_case_3 l C1 hJ hA hK hL6 hS hP hl
    have ke3 := jne e3 rfl jz_3
    by_cases e4 : x2 = 4
    · refine jtopr e4 ?_
      refine lv_tableIn (off := 315) (tgt := 348) hx hb dL_law_33 (by decide) (by decide) (by decide) (by decide) ?_
      exact law_case_4 l C1 hJ hA hK hL6 hS hP hl
    have ke4 := jne e4 rfl jz_4
    by_cases e5 : x2 = 5
    · refine jtopr e5 ?_
      refine lv_tableIn (off := 348) (tgt := 381) hx hb dL_law_33 (by decide) (by decide) (by decide) (by decide) ?_
      exact law_case_5 l C1 hJ hA hK hL6 hS hP hl
    have ke5 := jne e5 rfl jz_5
    by_cases e6 : x2 = 6
    · refine jtopr e6 ?_
      refine lv_tableIn (off := 361) (tgt := 394) hx hb dL_law_33 (by decide) (by decide) (by decide) (by decide) ?_
      exact law_case_6 l C1 hJ hA hK hL6 hS hP hl
    have ke6 := jne e6 rfl jz_6
    by_cases e7 : x2 = 7
    · refine jtopr e7 ?_
      refine lv_tableIn (off := 384) (tgt := 417) hx hb dL_law_33 (by decide) (by decide) (by decide) (by decide) ?_
      exact law_case_7 l C1 hJ hA hK hL6 hS hP hl
    have ke7 := jne e7 rfl jz_7
    by_cases e8 : x2 = 8
    · refine jtopr e8 ?_
      refine lv_tableIn (off := 407) (tgt := 440) hx hb dL_law_33 (by decide) (by decide) (by decide) (by decide) ?_
      exact law_case_8 l C1 hJ hA hK hL6 hS hP hl
    have ke8 := jne e8 rfl jz_8
    by_cases e9 : x2 = 9
    · refine jtopr e9 ?_
      refine lv_tableIn (off := 450) (tgt := 483) hx hb dL_law_33 (by decide) (by decide) (by decide) (by decide) ?_
      exact law_case_9 l C1 hJ hA hK hL6 hS hP hl
    have ke9 := jne e9 rfl jz_9
    by_cases e10 : x2 = 10
    · refine jtopr e10 ?_
      refine lv_tableIn (off := 493) (tgt := 526) hx hb dL_law_33 (by decide) (by decide) (by decide) (by decide) ?_
      exact law_case_10 l C1 hJ hA hK hL6 hS hP hl
    have ke10 := jne e10 rfl jz_10
    by_cases e11 : x2 = 11
    · refine jtopr e11 ?_
      refine lv_tableIn (off := 516) (tgt := 549) hx hb dL_law_33 (by decide) (by decide) (by decide) (by decide) ?_
      exact law_case_11 l C1 hJ hA hK hL6 hS hP hl
    have ke11 := jne e11 rfl jz_11
    by_cases e12 : x2 = 12
    · refine jtopr e12 ?_
      refine lv_tableIn (off := 539) (tgt := 572) hx hb dL_law_33 (by decide) (by decide) (by decide) (by decide) ?_
      exact law_case_12 l C1 hJ hA hK hL6 hS hP hl
    have ke12 := jne e12 rfl jz_12
    by_cases e13 : x2 = 13
    · refine jtopr e13 ?_
      refine lv_tableIn (off := 572) (tgt := 605) hx hb dL_law_33 (by decide) (by decide) (by decide) (by decide) ?_
      exact law_case_13 l C1 hJ hA hK hL6 hS hP hl
    have ke13 := jne e13 rfl jz_13
    by_cases e14 : x2 = 14
    · refine jtopr e14 ?_
      refine lv_tableIn (off := 595) (tgt := 628) hx hb dL_law_33 (by decide) (by decide) (by decide) (by decide) ?_
      exact law_case_14 l C1 hJ hA hK hL6 hS hP hl
    have ke14 := jne e14 rfl jz_14
    by_cases e15 : x2 = 15
    · refine jtopr e15 ?_
      refine lv_tableIn (off := 628) (tgt := 661) hx hb dL_law_33 (by decide) (by decide) (by decide) (by decide) ?_
      exact law_case_15 l C1 hJ hA hK hL6 hS hP hl
    have ke15 := jne e15 rfl jz_15
    by_cases e16 : x2 = 16
    · refine jtopr e16 ?_
      refine lv_tableIn (off := 661) (tgt := 694) hx hb dL_law_33 (by decide) (by decide) (by decide) (by decide) ?_
      exact law_case_16 l C1 hJ hA hK hL6 hS hP hl
    have ke16 := jne e16 rfl jz_16
    by_cases e17 : x2 = 17
    · refine jtopr e17 ?_
      refine lv_tableIn (off := 684) (tgt := 717) hx hb dL_law_33 (by decide) (by decide) (by decide) (by decide) ?_
      exact law_case_17 l C1 hJ hA hK hL6 hS hP hl
    have ke17 := jne e17 rfl jz_17
    by_cases e18 : x2 = 18
    · refine jtopr e18 ?_
      refine lv_tableIn (off := 707) (tgt := 740) hx hb dL_law_33 (by decide) (by decide) (by decide) (by decide) ?_
      exact law_case_18 l C1 hJ hA hK hL6 hS hP hl
    have ke18 := jne e18 rfl jz_18
    by_cases e19 : x2 = 19
    · refine jtopr e19 ?_
      refine lv_tableIn (off := 740) (tgt := 773) hx hb dL_law_33 (by decide) (by decide) (by decide) (by decide) ?_
      exact law_case_19 l C1 hJ hA hK hL6 hS hP hl
    have ke19 := jne e19 rfl jz_19
    by_cases e20 : x2 = 20
    · refine jtopr e20 ?_
      refine lv_tableIn (off := 773) (tgt := 806) hx hb dL_law_33 (by decide) (by decide) (by decide) (by decide) ?_
      exact law_case_20 l C1 hJ hA hK hL6 hS hP hl
    have ke20 := jne e20 rfl jz_20
    by_cases e21 : x2 = 21
    · refine jtopr e21 ?_
      refine lv_tableIn (off := 806) (tgt := 839) hx hb dL_law_33 (by decide) (by decide) (by decide) (by decide) ?_
      exact law_case_21 l C1 hJ hA hK hL6 hS hP hl
    have ke21 := jne e21 rfl jz_21
    by_cases e22 : x2 = 22
    · refine jtopr e22 ?_
      refine lv_tableIn (off := 819) (tgt := 852) hx hb dL_law_33 (by decide) (by decide) (by decide) (by decide) ?_
      exact law_case_22 l C1 hJ hA hK hL6 hS hP hl
    have ke22 := jne e22 rfl jz_22
    by_cases e23 : x2 = 23
    · refine jtopr e23 ?_
      refine lv_tableIn (off := 842) (tgt := 875) hx hb dL_law_33 (by decide) (by decide) (by decide) (by decide) ?_
      exact law_case_23 l C1 hJ hA hK hL6 hS hP hl
    have ke23 := jne e23 rfl jz_23
    by_cases e24 : x2 = 24
    · refine jtopr e24 ?_
      refine lv_tableIn (off := 865) (tgt := 898) hx hb dL_law_33 (by decide) (by decide) (by decide) (by decide) ?_
      exact law_case_24 l C1 hJ hA hK hL6 hS hP hl
    have ke24 := jne e24 rfl jz_24
    by_cases e25 : x2 = 25
    · refine jtopr e25 ?_
      refine lv_tableIn (off := 898) (tgt := 931) hx hb dL_law_33 (by decide) (by decide) (by decide) (by decide) ?_
      exact law_case_25 l C1 hJ hA hK hL6 hS hP hl
    have ke25 := jne e25 rfl jz_25
    by_cases e26 : x2 = 26
    · refine jtopr e26 ?_
      refine lv_tableIn (off := 931) (tgt := 964) hx hb dL_law_33 (by decide) (by decide) (by decide) (by decide) ?_
      exact law_case_26 l C1 hJ hA hK hL6 hS hP hl
    have ke26 := jne e26 rfl jz_26
    by_cases e27 : x2 = 27
    · refine jtopr e27 ?_
      refine lv_tableIn (off := 944) (tgt := 977) hx hb dL_law_33 (by decide) (by decide) (by decide) (by decide) ?_
      exact law_case_27 l C1 hJ hA hK hL6 hS hP hl
    have ke27 := jne e27 rfl jz_27
    by_cases e28 : x2 = 28
    · refine jtopr e28 ?_
      refine lv_tableIn (off := 957) (tgt := 990) hx hb dL_law_33 (by decide) (by decide) (by decide) (by decide) ?_
      exact law_case_28 l C1 hJ hA hK hL6 hS hP hl
    have ke28 := jne e28 rfl jz_28
    by_cases e29 : x2 = 29
    · refine jtopr e29 ?_
      refine lv_tableIn (off := 1000) (tgt := 1033) hx hb dL_law_33 (by decide) (by decide) (by decide) (by decide) ?_
      exact law_case_29 l C1 hJ hA hK hL6 hS hP hl
    have ke29 := jne e29 rfl jz_29
    by_cases e30 : x2 = 30
    · refine jtopr e30 ?_
      refine lv_tableIn (off := 1023) (tgt := 1056) hx hb dL_law_33 (by decide) (by decide) (by decide) (by decide) ?_
      exact law_case_30 l C1 hJ hA hK hL6 hS hP hl
    have ke30 := jne e30 rfl jz_30
    by_cases e31 : x2 = 31
    · refine jtopr e31 ?_
      refine lv_tableIn (off := 1056) (tgt := 1089) hx hb dL_law_33 (by decide) (by decide) (by decide) (by decide) ?_
      exact law_case_31 l C1 hJ hA hK hL6 hS hP hl
    have ke31 := jne e31 rfl jz_31
    by_cases e32 : x2 = 32
    · refine jtopr e32 ?_
      refine lv_tableIn (off := 1099) (tgt := 1132) hx hb dL_law_33 (by decide) (by decide) (by decide) (by decide) ?_
      exact law_case_32 l C1 hJ hA hK hL6 hS hP hl
    have ke32 := jne e32 rfl jz_32
    by_cases e33 : x2 = 33
    · refine jtopr e33 ?_
      refine lv_tableIn (off := 1172) (tgt := 1205) hx hb dL_law_33 (by decide) (by decide) (by decide) (by decide) ?_
      exact law_case_33 l C1 hJ hA hK hL6 hS hP hl
    have ke33 := jne e33 rfl jz_33
    by_cases e34 : x2 = 34
    · refine jtopr e34 ?_
      refine lv_tableIn (off := 1206) (tgt := 1239) hx hb dL_law_33 (by decide) (by decide) (by decide) (by decide) ?_
      exact law_case_34 l C1 hJ hA hK hL6 hS hP hl
    have ke34 := jne e34 rfl jz_34
    by_cases e35 : x2 = 35
    · refine jtopr e35 ?_
      refine lv_tableIn (off := 1269) (tgt := 1302) hx hb dL_law_33 (by decide) (by decide) (by decide) (by decide) ?_
      exact law_case_35 l C1 hJ hA hK hL6 hS hP hl
    have ke35 := jne e35 rfl jz_35
    by_cases e36 : x2 = 36
    · refine jtopr e36 ?_
      refine lv_tableIn (off := 1302) (tgt := 1335) hx hb dL_law_33 (by decide) (by decide) (by decide) (by decide) ?_
      exact law_case_36 l C1 hJ hA hK hL6 hS hP hl
    have ke36 := jne e36 rfl jz_36
    refine lv_tableOut (tgt := 1358) hx hb dL_law_33 (by omega) (by decide) ?_
    refine lv_iinc (v := 6) (lv' := [(3, .int 6), (2, .ref (ad 55)), (1, .ref (ad 0)), (0, .ref b)]) hx hb dL_law_1358 hl (k := 0) rfl (by decide) (by decide) rfl (fun ls hl => ?_)
    refine lv_goto (tgt := 18) hx hb dL_law_1361 (by decide) ?_
    refine lv_iload_n hx hb dL_law_18 rfl (lv_at hl 0 rfl) ?_
    refine lv_aload_n hx hb dL_law_19 rfl (lv_at hl 3 rfl) ?_
    refine va_slen hx hb hX hbl hbA hS dL_law_20 ?_
    refine jtopr (y := 6) (by rw [hL6]; rfl) ?_
    refine lv_bipush (v := 6) hx hb dL_law_21 (by decide) ?_
    refine lv_isub hx hb dL_law_23 ?_
    refine jtopr (y := 0) (by decide) ?_
    refine lv_icmp_gt (tgt := 1364) hx hb dL_law_24 (by decide) (fun _ => ?_) (fun c => absurd (by decide) c)
    refine lv_iconst (v := 1) hx hb dL_law_1364 (by decide) ?_
    refine va_forget (fun q hq => hS.2.2 q hq) ?_
    refine W.widen (k := 600000) (n := 7302250) (Nat.le_of_ble_eq_true rfl) (Nat.le_of_ble_eq_true rfl) ?_
    exact lw_ret hx hb hr hlocks dL_law_1365
set_option maxHeartbeats 4000000 in
set_option maxRecDepth 100000 in
theorem whole_start {p : Program} {e : Env} {s : State} {m : MethodId} {below : List Frame} {meth : Method} {c : Code} (l : Launch) (hflags : l.flags = flags0) {b L : Nat} {xs : Nat → Int32} (hL : L ≤ 6) (C0 : lw_At p s m meth c b L xs) : W p l e room_1 s m #[Value.ref b] below meth c s.heap [] 0 0 (lw_Z below #[Value.ref b] s) (entryFrame m ([Value.ref b] : List Value).toArray 4) := by
  have C1 := C0
  obtain ⟨hx, hb, hr, hml, hown, hts0, hX, hbl, hlocks, hgv⟩ := C0
  have hts : ∀ w ∈ wsL_law, w.before #[Value.ref b] s = true := fun w h => hts0 w (wsL_law_in w h)
  have hbA : ¬ (fun q : Nat => s.heap.size ≤ q) b := Nat.not_le.mpr hbl
  have hown : s.vm.findClass RL = some m.cls := hown
  have hA : ∀ q : Nat, s.heap.size ≤ q → (fun q : Nat => s.heap.size ≤ q) q := fun _ h => h
  obtain ⟨cc1, iS1, hKn1⟩ := u_known (C := RX1) (T := TX1) (N := 13) (n := 13) hts inlX1 (hts (.instantiable RX1 13) kw_2_11)
  obtain ⟨cc2, iS2, hKn2⟩ := u_known (C := RX2) (T := TX2) (N := 3) (n := 3) hts inlX2 (hts (.instantiable RX2 3) kw_2_23)
  obtain ⟨cc3, iS3, hKn3⟩ := u_known (C := RX3) (T := TX3) (N := 9) (n := 9) hts inlX3 (hts (.instantiable RX3 9) kw_2_19)
  obtain ⟨cc4, iS4, hKn4⟩ := u_known (C := RX4) (T := TX4) (N := 10) (n := 10) hts inlX4 (hts (.instantiable RX4 10) kw_1_14)
  obtain ⟨cc5, iS5, hKn5⟩ := u_known (C := RX5) (T := TX5) (N := 8) (n := 8) hts inlX5 (hts (.instantiable RX5 8) kw_2_7)
  obtain ⟨cc6, iS6, hKn6⟩ := u_known (C := RX6) (T := TX6) (N := 4) (n := 4) hts inlX6 (hts (.instantiable RX6 4) kw_1_22)
  obtain ⟨cc7, iS7, hKn7⟩ := u_known (C := RX7) (T := TX7) (N := 6) (n := 6) hts inlX7 (hts (.instantiable RX7 6) kw_1_18)
  obtain ⟨cc8, iS8, hKn8⟩ := u_known (C := RX8) (T := TX8) (N := 6) (n := 6) hts inlX8 (hts (.instantiable RX8 6) kw_2_15)
  obtain ⟨cc9, iS9, hKn9⟩ := u_known (C := RX9) (T := TX9) (N := 5) (n := 5) hts inlX9 (hts (.instantiable RX9 5) kw_3_3)
  obtain ⟨cc10, iS10, hKn10⟩ := u_known (C := RX10) (T := TX10) (N := 5) (n := 5) hts inlX10 (hts (.instantiable RX10 5) kw_2_2)
  obtain ⟨cc11, iS11, hKn11⟩ := u_known (C := RX11) (T := TX11) (N := 12) (n := 12) hts inlX11 (hts (.instantiable RX11 12) kw_1_1)
  obtain ⟨cc12, iS12, hKn12⟩ := u_known (C := RX12) (T := TX12) (N := 62) (n := 62) hts inlX12 (hts (.instantiable RX12 62) kw_1_4)
  obtain ⟨D, hKc⟩ : ∃ D : va_G, ∀ (k : Nat) (q : vw_C), vwCl[k]? = some q → u_Kn s q.1 q.2.1 q.2.2 (D.1 k) (D.2 k) := by
    refine ⟨(fun k => if k = 0 then cc1 else if k = 1 then cc2 else if k = 2 then cc3 else if k = 3 then cc4 else if k = 4 then cc5 else if k = 5 then cc6 else if k = 6 then cc7 else if k = 7 then cc8 else if k = 8 then cc9 else if k = 9 then cc10 else if k = 10 then cc11 else cc12, fun k => if k = 0 then iS1 else if k = 1 then iS2 else if k = 2 then iS3 else if k = 3 then iS4 else if k = 4 then iS5 else if k = 5 then iS6 else if k = 6 then iS7 else if k = 7 then iS8 else if k = 8 then iS9 else if k = 9 then iS10 else if k = 10 then iS11 else iS12), ?_⟩
    intro k q hq
    match k, hq with
    | 0, hq => cases hq; exact hKn1
    | 1, hq => cases hq; exact hKn2
    | 2, hq => cases hq; exact hKn3
    | 3, hq => cases hq; exact hKn4
    | 4, hq => cases hq; exact hKn5
    | 5, hq => cases hq; exact hKn6
    | 6, hq => cases hq; exact hKn7
    | 7, hq => cases hq; exact hKn8
    | 8, hq => cases hq; exact hKn9
    | 9, hq => cases hq; exact hKn10
    | 10, hq => cases hq; exact hKn11
    | 11, hq => cases hq; exact hKn12
    | k + 12, hq => simp [vwCl] at hq
  obtain ⟨cI, hI1, hI2⟩ := jarr (hts (.arrayClass .int) kw_3_6)
  obtain ⟨cL, hL1, hL2⟩ := jarr (hts (.arrayClass .long) kw_6_19)
  have hK : jK D cI cL s := by
    refine ⟨hKc, fun k q hq => ?_⟩
    match k, hq with
    | 0, hq => cases hq; exact ⟨hI1, hI2⟩
    | 1, hq => cases hq; exact ⟨hL1, hL2⟩
    | k + 2, hq => simp at hq
  have hS : va_S (fun q : Nat => s.heap.size ≤ q) s.heap s.heap [] := va_S.rf
  have hP : va_P D vwCl [] s.heap := fun k q h => by simp at h
  have hD : va_D (fun q : Nat => s.heap.size ≤ q) [] := ⟨fun i j p q h => by simp at h, fun k q h => by simp at h⟩
  have hl := lv_entry ([.ref b] : List Value) (n := 4) (Nat.le_of_ble_eq_true rfl)
  rw [lg_entry_eq]
  generalize (lg_sl [.ref b] ++ List.replicate (4 - (lg_sl [.ref b]).length) Slot.unset).toArray = ls at hl ⊢
  have hl : lv_has ls 4 [(0, .ref b)] := hl
  have hnr9 : va_Nw (.methodLinkNest RX11 9 yX4_init "ChangeBowler") s := va_Nw.of rfl (hts0 (.methodLinkNest RX11 9 yX4_init "ChangeBowler") (by decide +kernel))
  have hnr18 : va_Nw (.methodLinkNest RX11 18 yX7_init "ChangeBowler") s := va_Nw.of rfl (hts0 (.methodLinkNest RX11 18 yX7_init "ChangeBowler") (by decide +kernel))
  have hnr25 : va_Nw (.methodLinkNest RX11 25 yX6_init "ChangeBowler") s := va_Nw.of rfl (hts0 (.methodLinkNest RX11 25 yX6_init "ChangeBowler") (by decide +kernel))
  have hnr32 : va_Nw (.methodLinkNest RX11 32 yX10_init "ChangeBowler") s := va_Nw.of rfl (hts0 (.methodLinkNest RX11 32 yX10_init "ChangeBowler") (by decide +kernel))
  have hnr60 : va_Nw (.methodLinkNest RX11 60 yX8_init "ChangeBowler") s := va_Nw.of rfl (hts0 (.methodLinkNest RX11 60 yX8_init "ChangeBowler") (by decide +kernel))
  have hnr76 : va_Nw (.methodLinkNest RX11 76 yX2_init "ChangeBowler") s := va_Nw.of rfl (hts0 (.methodLinkNest RX11 76 yX2_init "ChangeBowler") (by decide +kernel))
  have hnr20 : va_Nw (.methodLinkNest RX7 20 yX10_init "ChangeBowler") s := va_Nw.of rfl (hts0 (.methodLinkNest RX7 20 yX10_init "ChangeBowler") (by decide +kernel))
  refine va_new (ci := 10) (fs := [.null, .null, .null, .null, .null, .null, .null, .null, .null, .null, .null, .null]) (C := RX11) (T := TX11) (N := 12) hx hb hts inlX11 tyX11 tyX11_ok hown (hts _ kw_1_0) (hts (.instantiable RX11 12) kw_1_1) (hts (.initialized RX11) kw_1_2) hK hP hD hS hA rfl (jdef_11) (Nat.le_of_ble_eq_true rfl) (Nat.le_of_ble_eq_true rfl) dL_law_0 (fun u0 H hP hD hS => ?_)
  have hP : va_P D vwCl [(u0, .inr (10, [.null, .null, .null, .null, .null, .null, .null, .null, .null, .null, .null, .null]))] H := hP
  have hD : va_D (fun q : Nat => s.heap.size ≤ q) [(u0, .inr (10, [.null, .null, .null, .null, .null, .null, .null, .null, .null, .null, .null, .null]))] := hD
  refine W.widen (k := 1) (n := 12) (Nat.le_of_ble_eq_true rfl) (Nat.le_of_ble_eq_true rfl) ?_
  refine lv_dup hx hb dL_law_3 rfl ?_
  have hPc := hP.sub (ws' := [(u0, .inr (10, [.null, .null, .null, .null, .null, .null, .null, .null, .null, .null, .null, .null]))]) [0] rfl
  have hDc := hD.sub (ws' := [(u0, .inr (10, [.null, .null, .null, .null, .null, .null, .null, .null, .null, .null, .null, .null]))]) [0] (by decide) rfl
  have hFc := va_free (wc := [(u0, .inr (10, [.null, .null, .null, .null, .null, .null, .null, .null, .null, .null, .null, .null]))]) hD hS hA [0] rfl
  refine va_callv (va_runI (As := []) (rest := [.ref u0]) ⟨hx, hb, hml, hown, hts⟩ (k_X11_init l D cI cL u0 H.size) (cwI 0 hts (jgoodL kw_1_9) rfl rfl rfl (hts _ kw_1_2) (hts _ kw_1_7) (hts _ kw_1_8) rfl (by decide +kernel) ⟨Nat.le_of_ble_eq_true rfl, Nat.le_of_ble_eq_true rfl⟩) ⟨fun a U g mk q => by obtain ⟨q0, q1, qP, qK, qD, qN0, qN1, qN2, qN3, qN4, qN5, qN6⟩ := q; exact ⟨q0, q1, qP, va_K.moved (u := U) (U := U.calling g mk a) (Vm.Alike.refl U.vm) qK, qD, va_Nw.same rfl rfl qN0, va_Nw.same rfl rfl qN1, va_Nw.same rfl rfl qN2, va_Nw.same rfl rfl qN3, va_Nw.same rfl rfl qN4, va_Nw.same rfl rfl qN5, va_Nw.same rfl rfl qN6⟩, fun U hU hW => ⟨rfl, by rw [hU], by rw [hU]; exact hPc, va_K.moved hW.alike hK, hDc.weaken (fun _ _ _ _ => trivial), va_Nw.warmM hW hnr9, va_Nw.warmM hW hnr18, va_Nw.warmM hW hnr25, va_Nw.warmM hW hnr32, va_Nw.warmM hW hnr60, va_Nw.warmM hW hnr76, va_Nw.warmM hW hnr20⟩⟩ rfl rfl hl.1 rfl (lv_room (Nat.le_of_ble_eq_true rfl)) dL_law_4 ⟨Nat.le_of_ble_eq_true rfl, Nat.le_of_ble_eq_true rfl⟩) hS (fun q _ h => hFc q h) hFc (fun u t H1 locs ht hvm hw hB hz1 hk1 hS => ?_)
  obtain ⟨aq1, aq2, aq3, aq4, aq5, aq6, aq7, aq8, aq9, aq10, aq11, aq12, aq13, aq14, aq15, aq16, aq17, aq18, aq19, aq20, aq21, aq22, aq23, aq24, aq25, aq26, aq27, aq28, aq29, aq30, aq31, aq32, aq33, aq34, aq35, aq36, aq37, aq38, aq39, aq40, aq41, aq42, aq43, aq44, aq45, aq46, aq47, aq48, aq49, aq50, aq51, aq52, aq53, aq54, hP1, hK1, hD1⟩ := hB
  rw [ht] at hP1
  obtain ⟨hP, hD⟩ := va_join (wr := []) (w1 := [(u0, .inr (10, [.ref aq1, .ref aq8, .ref aq15, .ref aq17, .ref aq21, .ref aq25, .ref aq30, .ref aq37, .ref aq42, .ref aq46, .ref aq49, .ref aq54])), (aq1, .inr (3, [.int 0, .int 0, .int 0, .int 0, .ref aq2, .ref aq3, .ref aq4, .ref aq5, .ref aq6, .ref aq7])), (aq2, .inl (cI, 68, .inl (fun _ => 0))), (aq3, .inl (cI, 4, .inl (fun _ => 0))), (aq4, .inl (cI, 4, .inl (fun _ => 0))), (aq5, .inl (cI, 40, .inl (fun _ => 0))), (aq6, .inl (cI, 40, .inl (fun _ => 0))), (aq7, .inl (cI, 40, .inl (fun _ => 0))), (aq8, .inr (6, [.int 0, .int 0, .int 0, .ref aq9, .ref aq10, .ref aq11])), (aq9, .inl (cI, 80, .inl (fun _ => 0))), (aq10, .inl (cI, 8, .inl (fun _ => 0))), (aq11, .inr (9, [.int 0, .int 0, .ref aq12, .ref aq13, .ref aq14])), (aq12, .inl (cI, 160, .inl (fun _ => 0))), (aq13, .inl (cI, 8, .inl (fun _ => 0))), (aq14, .inl (cI, 160, .inl (fun _ => 0))), (aq15, .inr (5, [.int 1, .int 8, .int 0, .ref aq16])), (aq16, .inl (cI, 8, .inl (fun _ => 0))), (aq17, .inr (9, [.int 0, .int 0, .ref aq18, .ref aq19, .ref aq20])), (aq18, .inl (cI, 160, .inl (fun _ => 0))), (aq19, .inl (cI, 8, .inl (fun _ => 0))), (aq20, .inl (cI, 160, .inl (fun _ => 0))), (aq21, .inr (9, [.int 0, .int 0, .ref aq22, .ref aq23, .ref aq24])), (aq22, .inl (cI, 160, .inl (fun _ => 0))), (aq23, .inl (cI, 8, .inl (fun _ => 0))), (aq24, .inl (cI, 160, .inl (fun _ => 0))), (aq25, .inr (4, [.ref aq21, .ref aq1, .ref aq26, .ref aq27, .ref aq28, .ref aq29, .int 1, .int 0])), (aq26, .inl (cI, 64, .inl (fun _ => 0))), (aq27, .inl (cI, 64, .inl (fun _ => 0))), (aq28, .inl (cI, 4096, .inl (fun _ => 0))), (aq29, .inl (cI, 4096, .inl (fun _ => 0))), (aq30, .inr (0, [.ref aq25, .ref aq15, .ref aq31, .ref aq32, .ref aq33, .ref aq34, .ref aq35, .ref aq36, .int 0, .int (-1), .int 0, .int 0, .int 0])), (aq31, .inl (cI, 350, .inl (fun _ => 0))), (aq32, .inl (cI, 1400, .inl (fun _ => 0))), (aq33, .inl (cI, 3159, .inl (fun _ => 0))), (aq34, .inl (cI, 3159, .inl (fun _ => 0))), (aq35, .inl (cI, 1024, .inl (fun _ => 0))), (aq36, .inl (cI, 350, .inl (fun _ => 0))), (aq37, .inr (7, [.int 0, .int 0, .ref aq38, .ref aq39, .ref aq40, .ref aq41])), (aq38, .inl (cI, 20, .inl (fun _ => 0))), (aq39, .inl (cI, 20, .inl (fun _ => 0))), (aq40, .inl (cI, 20, .inl (fun _ => 0))), (aq41, .inl (cI, 24, .inl (fun _ => 0))), (aq42, .inr (2, [.ref aq37, .ref aq25, .ref aq30, .ref aq15, .ref aq17, .ref aq43, .ref aq44, .ref aq45, .int 0])), (aq43, .inl (cI, 8, .inl (fun _ => 0))), (aq44, .inl (cI, 8, .inl (fun _ => 0))), (aq45, .inl (cI, 8, .inl (fun _ => 0))), (aq46, .inr (1, [.int 0, .ref aq47, .ref aq48])), (aq47, .inl (cI, 12, .inl (fun _ => 0))), (aq48, .inl (cI, 12, .inl (fun _ => 0))), (aq49, .inr (8, [.ref aq37, .ref aq50, .ref aq51, .ref aq52, .ref aq53])), (aq50, .inl (cI, 6, .inl (upd (upd (upd (upd (upd (upd (fun _ => 0) 0 (-2)) 1 (-2)) 2 (-2)) 3 (-2)) 4 (-2)) 5 (-2)))), (aq51, .inl (cI, 6, .inl (fun _ => 0))), (aq52, .inl (cI, 6, .inl (upd (upd (upd (upd (upd (upd (fun _ => 0) 0 (-1)) 1 (-1)) 2 (-1)) 3 (-1)) 4 (-1)) 5 (-1)))), (aq53, .inl (cL, 360, .inr (.inl (fun _ => 0)))), (aq54, .inl (cI, 8, .inl (fun _ => 0)))]) hP hD [0] [] rfl rfl (by decide) (by decide) hk1 hFc hP1 hD1
  generalize H1 = H at hP hS ⊢
  have hP : va_P D vwCl [(u0, .inr (10, [.ref aq1, .ref aq8, .ref aq15, .ref aq17, .ref aq21, .ref aq25, .ref aq30, .ref aq37, .ref aq42, .ref aq46, .ref aq49, .ref aq54])), (aq1, .inr (3, [.int 0, .int 0, .int 0, .int 0, .ref aq2, .ref aq3, .ref aq4, .ref aq5, .ref aq6, .ref aq7])), (aq2, .inl (cI, 68, .inl (fun _ => 0))), (aq3, .inl (cI, 4, .inl (fun _ => 0))), (aq4, .inl (cI, 4, .inl (fun _ => 0))), (aq5, .inl (cI, 40, .inl (fun _ => 0))), (aq6, .inl (cI, 40, .inl (fun _ => 0))), (aq7, .inl (cI, 40, .inl (fun _ => 0))), (aq8, .inr (6, [.int 0, .int 0, .int 0, .ref aq9, .ref aq10, .ref aq11])), (aq9, .inl (cI, 80, .inl (fun _ => 0))), (aq10, .inl (cI, 8, .inl (fun _ => 0))), (aq11, .inr (9, [.int 0, .int 0, .ref aq12, .ref aq13, .ref aq14])), (aq12, .inl (cI, 160, .inl (fun _ => 0))), (aq13, .inl (cI, 8, .inl (fun _ => 0))), (aq14, .inl (cI, 160, .inl (fun _ => 0))), (aq15, .inr (5, [.int 1, .int 8, .int 0, .ref aq16])), (aq16, .inl (cI, 8, .inl (fun _ => 0))), (aq17, .inr (9, [.int 0, .int 0, .ref aq18, .ref aq19, .ref aq20])), (aq18, .inl (cI, 160, .inl (fun _ => 0))), (aq19, .inl (cI, 8, .inl (fun _ => 0))), (aq20, .inl (cI, 160, .inl (fun _ => 0))), (aq21, .inr (9, [.int 0, .int 0, .ref aq22, .ref aq23, .ref aq24])), (aq22, .inl (cI, 160, .inl (fun _ => 0))), (aq23, .inl (cI, 8, .inl (fun _ => 0))), (aq24, .inl (cI, 160, .inl (fun _ => 0))), (aq25, .inr (4, [.ref aq21, .ref aq1, .ref aq26, .ref aq27, .ref aq28, .ref aq29, .int 1, .int 0])), (aq26, .inl (cI, 64, .inl (fun _ => 0))), (aq27, .inl (cI, 64, .inl (fun _ => 0))), (aq28, .inl (cI, 4096, .inl (fun _ => 0))), (aq29, .inl (cI, 4096, .inl (fun _ => 0))), (aq30, .inr (0, [.ref aq25, .ref aq15, .ref aq31, .ref aq32, .ref aq33, .ref aq34, .ref aq35, .ref aq36, .int 0, .int (-1), .int 0, .int 0, .int 0])), (aq31, .inl (cI, 350, .inl (fun _ => 0))), (aq32, .inl (cI, 1400, .inl (fun _ => 0))), (aq33, .inl (cI, 3159, .inl (fun _ => 0))), (aq34, .inl (cI, 3159, .inl (fun _ => 0))), (aq35, .inl (cI, 1024, .inl (fun _ => 0))), (aq36, .inl (cI, 350, .inl (fun _ => 0))), (aq37, .inr (7, [.int 0, .int 0, .ref aq38, .ref aq39, .ref aq40, .ref aq41])), (aq38, .inl (cI, 20, .inl (fun _ => 0))), (aq39, .inl (cI, 20, .inl (fun _ => 0))), (aq40, .inl (cI, 20, .inl (fun _ => 0))), (aq41, .inl (cI, 24, .inl (fun _ => 0))), (aq42, .inr (2, [.ref aq37, .ref aq25, .ref aq30, .ref aq15, .ref aq17, .ref aq43, .ref aq44, .ref aq45, .int 0])), (aq43, .inl (cI, 8, .inl (fun _ => 0))), (aq44, .inl (cI, 8, .inl (fun _ => 0))), (aq45, .inl (cI, 8, .inl (fun _ => 0))), (aq46, .inr (1, [.int 0, .ref aq47, .ref aq48])), (aq47, .inl (cI, 12, .inl (fun _ => 0))), (aq48, .inl (cI, 12, .inl (fun _ => 0))), (aq49, .inr (8, [.ref aq37, .ref aq50, .ref aq51, .ref aq52, .ref aq53])), (aq50, .inl (cI, 6, .inl (upd (upd (upd (upd (upd (upd (fun _ => 0) 0 (-2)) 1 (-2)) 2 (-2)) 3 (-2)) 4 (-2)) 5 (-2)))), (aq51, .inl (cI, 6, .inl (fun _ => 0))), (aq52, .inl (cI, 6, .inl (upd (upd (upd (upd (upd (upd (fun _ => 0) 0 (-1)) 1 (-1)) 2 (-1)) 3 (-1)) 4 (-1)) 5 (-1)))), (aq53, .inl (cL, 360, .inr (.inl (fun _ => 0)))), (aq54, .inl (cI, 8, .inl (fun _ => 0)))] H := hP
  have hD : va_D (fun q : Nat => s.heap.size ≤ q) [(u0, .inr (10, [.ref aq1, .ref aq8, .ref aq15, .ref aq17, .ref aq21, .ref aq25, .ref aq30, .ref aq37, .ref aq42, .ref aq46, .ref aq49, .ref aq54])), (aq1, .inr (3, [.int 0, .int 0, .int 0, .int 0, .ref aq2, .ref aq3, .ref aq4, .ref aq5, .ref aq6, .ref aq7])), (aq2, .inl (cI, 68, .inl (fun _ => 0))), (aq3, .inl (cI, 4, .inl (fun _ => 0))), (aq4, .inl (cI, 4, .inl (fun _ => 0))), (aq5, .inl (cI, 40, .inl (fun _ => 0))), (aq6, .inl (cI, 40, .inl (fun _ => 0))), (aq7, .inl (cI, 40, .inl (fun _ => 0))), (aq8, .inr (6, [.int 0, .int 0, .int 0, .ref aq9, .ref aq10, .ref aq11])), (aq9, .inl (cI, 80, .inl (fun _ => 0))), (aq10, .inl (cI, 8, .inl (fun _ => 0))), (aq11, .inr (9, [.int 0, .int 0, .ref aq12, .ref aq13, .ref aq14])), (aq12, .inl (cI, 160, .inl (fun _ => 0))), (aq13, .inl (cI, 8, .inl (fun _ => 0))), (aq14, .inl (cI, 160, .inl (fun _ => 0))), (aq15, .inr (5, [.int 1, .int 8, .int 0, .ref aq16])), (aq16, .inl (cI, 8, .inl (fun _ => 0))), (aq17, .inr (9, [.int 0, .int 0, .ref aq18, .ref aq19, .ref aq20])), (aq18, .inl (cI, 160, .inl (fun _ => 0))), (aq19, .inl (cI, 8, .inl (fun _ => 0))), (aq20, .inl (cI, 160, .inl (fun _ => 0))), (aq21, .inr (9, [.int 0, .int 0, .ref aq22, .ref aq23, .ref aq24])), (aq22, .inl (cI, 160, .inl (fun _ => 0))), (aq23, .inl (cI, 8, .inl (fun _ => 0))), (aq24, .inl (cI, 160, .inl (fun _ => 0))), (aq25, .inr (4, [.ref aq21, .ref aq1, .ref aq26, .ref aq27, .ref aq28, .ref aq29, .int 1, .int 0])), (aq26, .inl (cI, 64, .inl (fun _ => 0))), (aq27, .inl (cI, 64, .inl (fun _ => 0))), (aq28, .inl (cI, 4096, .inl (fun _ => 0))), (aq29, .inl (cI, 4096, .inl (fun _ => 0))), (aq30, .inr (0, [.ref aq25, .ref aq15, .ref aq31, .ref aq32, .ref aq33, .ref aq34, .ref aq35, .ref aq36, .int 0, .int (-1), .int 0, .int 0, .int 0])), (aq31, .inl (cI, 350, .inl (fun _ => 0))), (aq32, .inl (cI, 1400, .inl (fun _ => 0))), (aq33, .inl (cI, 3159, .inl (fun _ => 0))), (aq34, .inl (cI, 3159, .inl (fun _ => 0))), (aq35, .inl (cI, 1024, .inl (fun _ => 0))), (aq36, .inl (cI, 350, .inl (fun _ => 0))), (aq37, .inr (7, [.int 0, .int 0, .ref aq38, .ref aq39, .ref aq40, .ref aq41])), (aq38, .inl (cI, 20, .inl (fun _ => 0))), (aq39, .inl (cI, 20, .inl (fun _ => 0))), (aq40, .inl (cI, 20, .inl (fun _ => 0))), (aq41, .inl (cI, 24, .inl (fun _ => 0))), (aq42, .inr (2, [.ref aq37, .ref aq25, .ref aq30, .ref aq15, .ref aq17, .ref aq43, .ref aq44, .ref aq45, .int 0])), (aq43, .inl (cI, 8, .inl (fun _ => 0))), (aq44, .inl (cI, 8, .inl (fun _ => 0))), (aq45, .inl (cI, 8, .inl (fun _ => 0))), (aq46, .inr (1, [.int 0, .ref aq47, .ref aq48])), (aq47, .inl (cI, 12, .inl (fun _ => 0))), (aq48, .inl (cI, 12, .inl (fun _ => 0))), (aq49, .inr (8, [.ref aq37, .ref aq50, .ref aq51, .ref aq52, .ref aq53])), (aq50, .inl (cI, 6, .inl (upd (upd (upd (upd (upd (upd (fun _ => 0) 0 (-2)) 1 (-2)) 2 (-2)) 3 (-2)) 4 (-2)) 5 (-2)))), (aq51, .inl (cI, 6, .inl (fun _ => 0))), (aq52, .inl (cI, 6, .inl (upd (upd (upd (upd (upd (upd (fun _ => 0) 0 (-1)) 1 (-1)) 2 (-1)) 3 (-1)) 4 (-1)) 5 (-1)))), (aq53, .inl (cL, 360, .inr (.inl (fun _ => 0)))), (aq54, .inl (cI, 8, .inl (fun _ => 0)))] := hD
  refine W.widen (k := 55) (n := 19647) (Nat.le_of_ble_eq_true rfl) (Nat.le_of_ble_eq_true rfl) ?_
  refine lv_astore_n (lv' := [(1, .ref u0), (0, .ref b)]) hx hb dL_law_7 rfl hl (by decide) rfl (fun ls hl => ?_)
  refine va_new (ci := 11) (fs := [.null, .null, .null, .null, .int 0, .int 0, .int 0, .null, .null, .int 0, .int 0, .null, .int 0, .int 0, .null, .int 0, .null, .null, .int 0, .int 0, .int 0, .int 0, .int 0, .null, .null, .int 0, .int 0, .int 0, .null, .null, .int 0, .int 0, .int 0, .null, .null, .null, .null, .int 0, .null, .null, .null, .null, .int 0, .null, .null, .int 0, .int 0, .int 0, .null, .null, .int 0, .null, .null, .null, .null, .int 0, .int 0, .int 0, .null, .null, .null, .null]) (C := RX12) (T := TX12) (N := 62) hx hb hts inlX12 tyX12 tyX12_ok hown (hts _ kw_1_3) (hts (.instantiable RX12 62) kw_1_4) (hts (.initialized RX12) kw_1_5) hK hP hD hS hA rfl (jdef_12) (Nat.le_of_ble_eq_true rfl) (Nat.le_of_ble_eq_true rfl) dL_law_8 (fun v0 H hP hD hS => ?_)
  have hP : va_P D vwCl [(u0, .inr (10, [.ref aq1, .ref aq8, .ref aq15, .ref aq17, .ref aq21, .ref aq25, .ref aq30, .ref aq37, .ref aq42, .ref aq46, .ref aq49, .ref aq54])), (aq1, .inr (3, [.int 0, .int 0, .int 0, .int 0, .ref aq2, .ref aq3, .ref aq4, .ref aq5, .ref aq6, .ref aq7])), (aq2, .inl (cI, 68, .inl (fun _ => 0))), (aq3, .inl (cI, 4, .inl (fun _ => 0))), (aq4, .inl (cI, 4, .inl (fun _ => 0))), (aq5, .inl (cI, 40, .inl (fun _ => 0))), (aq6, .inl (cI, 40, .inl (fun _ => 0))), (aq7, .inl (cI, 40, .inl (fun _ => 0))), (aq8, .inr (6, [.int 0, .int 0, .int 0, .ref aq9, .ref aq10, .ref aq11])), (aq9, .inl (cI, 80, .inl (fun _ => 0))), (aq10, .inl (cI, 8, .inl (fun _ => 0))), (aq11, .inr (9, [.int 0, .int 0, .ref aq12, .ref aq13, .ref aq14])), (aq12, .inl (cI, 160, .inl (fun _ => 0))), (aq13, .inl (cI, 8, .inl (fun _ => 0))), (aq14, .inl (cI, 160, .inl (fun _ => 0))), (aq15, .inr (5, [.int 1, .int 8, .int 0, .ref aq16])), (aq16, .inl (cI, 8, .inl (fun _ => 0))), (aq17, .inr (9, [.int 0, .int 0, .ref aq18, .ref aq19, .ref aq20])), (aq18, .inl (cI, 160, .inl (fun _ => 0))), (aq19, .inl (cI, 8, .inl (fun _ => 0))), (aq20, .inl (cI, 160, .inl (fun _ => 0))), (aq21, .inr (9, [.int 0, .int 0, .ref aq22, .ref aq23, .ref aq24])), (aq22, .inl (cI, 160, .inl (fun _ => 0))), (aq23, .inl (cI, 8, .inl (fun _ => 0))), (aq24, .inl (cI, 160, .inl (fun _ => 0))), (aq25, .inr (4, [.ref aq21, .ref aq1, .ref aq26, .ref aq27, .ref aq28, .ref aq29, .int 1, .int 0])), (aq26, .inl (cI, 64, .inl (fun _ => 0))), (aq27, .inl (cI, 64, .inl (fun _ => 0))), (aq28, .inl (cI, 4096, .inl (fun _ => 0))), (aq29, .inl (cI, 4096, .inl (fun _ => 0))), (aq30, .inr (0, [.ref aq25, .ref aq15, .ref aq31, .ref aq32, .ref aq33, .ref aq34, .ref aq35, .ref aq36, .int 0, .int (-1), .int 0, .int 0, .int 0])), (aq31, .inl (cI, 350, .inl (fun _ => 0))), (aq32, .inl (cI, 1400, .inl (fun _ => 0))), (aq33, .inl (cI, 3159, .inl (fun _ => 0))), (aq34, .inl (cI, 3159, .inl (fun _ => 0))), (aq35, .inl (cI, 1024, .inl (fun _ => 0))), (aq36, .inl (cI, 350, .inl (fun _ => 0))), (aq37, .inr (7, [.int 0, .int 0, .ref aq38, .ref aq39, .ref aq40, .ref aq41])), (aq38, .inl (cI, 20, .inl (fun _ => 0))), (aq39, .inl (cI, 20, .inl (fun _ => 0))), (aq40, .inl (cI, 20, .inl (fun _ => 0))), (aq41, .inl (cI, 24, .inl (fun _ => 0))), (aq42, .inr (2, [.ref aq37, .ref aq25, .ref aq30, .ref aq15, .ref aq17, .ref aq43, .ref aq44, .ref aq45, .int 0])), (aq43, .inl (cI, 8, .inl (fun _ => 0))), (aq44, .inl (cI, 8, .inl (fun _ => 0))), (aq45, .inl (cI, 8, .inl (fun _ => 0))), (aq46, .inr (1, [.int 0, .ref aq47, .ref aq48])), (aq47, .inl (cI, 12, .inl (fun _ => 0))), (aq48, .inl (cI, 12, .inl (fun _ => 0))), (aq49, .inr (8, [.ref aq37, .ref aq50, .ref aq51, .ref aq52, .ref aq53])), (aq50, .inl (cI, 6, .inl (upd (upd (upd (upd (upd (upd (fun _ => 0) 0 (-2)) 1 (-2)) 2 (-2)) 3 (-2)) 4 (-2)) 5 (-2)))), (aq51, .inl (cI, 6, .inl (fun _ => 0))), (aq52, .inl (cI, 6, .inl (upd (upd (upd (upd (upd (upd (fun _ => 0) 0 (-1)) 1 (-1)) 2 (-1)) 3 (-1)) 4 (-1)) 5 (-1)))), (aq53, .inl (cL, 360, .inr (.inl (fun _ => 0)))), (aq54, .inl (cI, 8, .inl (fun _ => 0))), (v0, .inr (11, [.null, .null, .null, .null, .int 0, .int 0, .int 0, .null, .null, .int 0, .int 0, .null, .int 0, .int 0, .null, .int 0, .null, .null, .int 0, .int 0, .int 0, .int 0, .int 0, .null, .null, .int 0, .int 0, .int 0, .null, .null, .int 0, .int 0, .int 0, .null, .null, .null, .null, .int 0, .null, .null, .null, .null, .int 0, .null, .null, .int 0, .int 0, .int 0, .null, .null, .int 0, .null, .null, .null, .null, .int 0, .int 0, .int 0, .null, .null, .null, .null]))] H := hP
  have hD : va_D (fun q : Nat => s.heap.size ≤ q) [(u0, .inr (10, [.ref aq1, .ref aq8, .ref aq15, .ref aq17, .ref aq21, .ref aq25, .ref aq30, .ref aq37, .ref aq42, .ref aq46, .ref aq49, .ref aq54])), (aq1, .inr (3, [.int 0, .int 0, .int 0, .int 0, .ref aq2, .ref aq3, .ref aq4, .ref aq5, .ref aq6, .ref aq7])), (aq2, .inl (cI, 68, .inl (fun _ => 0))), (aq3, .inl (cI, 4, .inl (fun _ => 0))), (aq4, .inl (cI, 4, .inl (fun _ => 0))), (aq5, .inl (cI, 40, .inl (fun _ => 0))), (aq6, .inl (cI, 40, .inl (fun _ => 0))), (aq7, .inl (cI, 40, .inl (fun _ => 0))), (aq8, .inr (6, [.int 0, .int 0, .int 0, .ref aq9, .ref aq10, .ref aq11])), (aq9, .inl (cI, 80, .inl (fun _ => 0))), (aq10, .inl (cI, 8, .inl (fun _ => 0))), (aq11, .inr (9, [.int 0, .int 0, .ref aq12, .ref aq13, .ref aq14])), (aq12, .inl (cI, 160, .inl (fun _ => 0))), (aq13, .inl (cI, 8, .inl (fun _ => 0))), (aq14, .inl (cI, 160, .inl (fun _ => 0))), (aq15, .inr (5, [.int 1, .int 8, .int 0, .ref aq16])), (aq16, .inl (cI, 8, .inl (fun _ => 0))), (aq17, .inr (9, [.int 0, .int 0, .ref aq18, .ref aq19, .ref aq20])), (aq18, .inl (cI, 160, .inl (fun _ => 0))), (aq19, .inl (cI, 8, .inl (fun _ => 0))), (aq20, .inl (cI, 160, .inl (fun _ => 0))), (aq21, .inr (9, [.int 0, .int 0, .ref aq22, .ref aq23, .ref aq24])), (aq22, .inl (cI, 160, .inl (fun _ => 0))), (aq23, .inl (cI, 8, .inl (fun _ => 0))), (aq24, .inl (cI, 160, .inl (fun _ => 0))), (aq25, .inr (4, [.ref aq21, .ref aq1, .ref aq26, .ref aq27, .ref aq28, .ref aq29, .int 1, .int 0])), (aq26, .inl (cI, 64, .inl (fun _ => 0))), (aq27, .inl (cI, 64, .inl (fun _ => 0))), (aq28, .inl (cI, 4096, .inl (fun _ => 0))), (aq29, .inl (cI, 4096, .inl (fun _ => 0))), (aq30, .inr (0, [.ref aq25, .ref aq15, .ref aq31, .ref aq32, .ref aq33, .ref aq34, .ref aq35, .ref aq36, .int 0, .int (-1), .int 0, .int 0, .int 0])), (aq31, .inl (cI, 350, .inl (fun _ => 0))), (aq32, .inl (cI, 1400, .inl (fun _ => 0))), (aq33, .inl (cI, 3159, .inl (fun _ => 0))), (aq34, .inl (cI, 3159, .inl (fun _ => 0))), (aq35, .inl (cI, 1024, .inl (fun _ => 0))), (aq36, .inl (cI, 350, .inl (fun _ => 0))), (aq37, .inr (7, [.int 0, .int 0, .ref aq38, .ref aq39, .ref aq40, .ref aq41])), (aq38, .inl (cI, 20, .inl (fun _ => 0))), (aq39, .inl (cI, 20, .inl (fun _ => 0))), (aq40, .inl (cI, 20, .inl (fun _ => 0))), (aq41, .inl (cI, 24, .inl (fun _ => 0))), (aq42, .inr (2, [.ref aq37, .ref aq25, .ref aq30, .ref aq15, .ref aq17, .ref aq43, .ref aq44, .ref aq45, .int 0])), (aq43, .inl (cI, 8, .inl (fun _ => 0))), (aq44, .inl (cI, 8, .inl (fun _ => 0))), (aq45, .inl (cI, 8, .inl (fun _ => 0))), (aq46, .inr (1, [.int 0, .ref aq47, .ref aq48])), (aq47, .inl (cI, 12, .inl (fun _ => 0))), (aq48, .inl (cI, 12, .inl (fun _ => 0))), (aq49, .inr (8, [.ref aq37, .ref aq50, .ref aq51, .ref aq52, .ref aq53])), (aq50, .inl (cI, 6, .inl (upd (upd (upd (upd (upd (upd (fun _ => 0) 0 (-2)) 1 (-2)) 2 (-2)) 3 (-2)) 4 (-2)) 5 (-2)))), (aq51, .inl (cI, 6, .inl (fun _ => 0))), (aq52, .inl (cI, 6, .inl (upd (upd (upd (upd (upd (upd (fun _ => 0) 0 (-1)) 1 (-1)) 2 (-1)) 3 (-1)) 4 (-1)) 5 (-1)))), (aq53, .inl (cL, 360, .inr (.inl (fun _ => 0)))), (aq54, .inl (cI, 8, .inl (fun _ => 0))), (v0, .inr (11, [.null, .null, .null, .null, .int 0, .int 0, .int 0, .null, .null, .int 0, .int 0, .null, .int 0, .int 0, .null, .int 0, .null, .null, .int 0, .int 0, .int 0, .int 0, .int 0, .null, .null, .int 0, .int 0, .int 0, .null, .null, .int 0, .int 0, .int 0, .null, .null, .null, .null, .int 0, .null, .null, .null, .null, .int 0, .null, .null, .int 0, .int 0, .int 0, .null, .null, .int 0, .null, .null, .null, .null, .int 0, .int 0, .int 0, .null, .null, .null, .null]))] := hD
  refine W.widen (k := 56) (n := 19709) (Nat.le_of_ble_eq_true rfl) (Nat.le_of_ble_eq_true rfl) ?_
  refine lv_dup hx hb dL_law_11 rfl ?_
  have hPc := hP.sub (ws' := [(v0, .inr (11, [.null, .null, .null, .null, .int 0, .int 0, .int 0, .null, .null, .int 0, .int 0, .null, .int 0, .int 0, .null, .int 0, .null, .null, .int 0, .int 0, .int 0, .int 0, .int 0, .null, .null, .int 0, .int 0, .int 0, .null, .null, .int 0, .int 0, .int 0, .null, .null, .null, .null, .int 0, .null, .null, .null, .null, .int 0, .null, .null, .int 0, .int 0, .int 0, .null, .null, .int 0, .null, .null, .null, .null, .int 0, .int 0, .int 0, .null, .null, .null, .null]))]) [55] rfl
  have hDc := hD.sub (ws' := [(v0, .inr (11, [.null, .null, .null, .null, .int 0, .int 0, .int 0, .null, .null, .int 0, .int 0, .null, .int 0, .int 0, .null, .int 0, .null, .null, .int 0, .int 0, .int 0, .int 0, .int 0, .null, .null, .int 0, .int 0, .int 0, .null, .null, .int 0, .int 0, .int 0, .null, .null, .null, .null, .int 0, .null, .null, .null, .null, .int 0, .null, .null, .int 0, .int 0, .int 0, .null, .null, .int 0, .null, .null, .null, .null, .int 0, .int 0, .int 0, .null, .null, .null, .null]))]) [55] (by decide) rfl
  have hFc := va_free (wc := [(v0, .inr (11, [.null, .null, .null, .null, .int 0, .int 0, .int 0, .null, .null, .int 0, .int 0, .null, .int 0, .int 0, .null, .int 0, .null, .null, .int 0, .int 0, .int 0, .int 0, .int 0, .null, .null, .int 0, .int 0, .int 0, .null, .null, .int 0, .int 0, .int 0, .null, .null, .null, .null, .int 0, .null, .null, .null, .null, .int 0, .null, .null, .int 0, .int 0, .int 0, .null, .null, .int 0, .null, .null, .null, .null, .int 0, .int 0, .int 0, .null, .null, .null, .null]))]) hD hS hA [55] rfl
  refine va_callv (va_runI (As := []) (rest := [.ref v0]) ⟨hx, hb, hml, hown, hts⟩ (k_X12_init l D cI cL v0 H.size) (cwI 0 hts (jgoodL kw_7_0) rfl rfl rfl (hts _ kw_1_5) (hts _ kw_6_22) (hts _ kw_6_23) rfl (by decide +kernel) ⟨Nat.le_of_ble_eq_true rfl, Nat.le_of_ble_eq_true rfl⟩) ⟨fun a U g mk q => by obtain ⟨q0, q1, qP, qK, qD⟩ := q; exact ⟨q0, q1, qP, va_K.moved (u := U) (U := U.calling g mk a) (Vm.Alike.refl U.vm) qK, qD⟩, fun U hU hW => ⟨rfl, by rw [hU], by rw [hU]; exact hPc, va_K.moved hW.alike hK, hDc.weaken (fun _ _ _ _ => trivial)⟩⟩ rfl rfl hl.1 rfl (lv_room (Nat.le_of_ble_eq_true rfl)) dL_law_12 ⟨Nat.le_of_ble_eq_true rfl, Nat.le_of_ble_eq_true rfl⟩) hS (fun q _ h => hFc q h) hFc (fun u t H1 locs ht hvm hw hB hz1 hk1 hS => ?_)
  obtain ⟨mq1, mq2, mq3, mq4, mq5, mq6, mq7, mq8, mq9, mq10, mq11, mq12, mq13, mq14, mq15, mq16, mq17, mq18, mq19, mq20, mq21, mq22, mq23, mq24, mq25, mq26, mq27, mq28, mq29, mq30, mq31, mq32, mq33, mq34, hP1, hK1, hD1⟩ := hB
  rw [ht] at hP1
  obtain ⟨hP, hD⟩ := va_join (wr := [(u0, .inr (10, [.ref aq1, .ref aq8, .ref aq15, .ref aq17, .ref aq21, .ref aq25, .ref aq30, .ref aq37, .ref aq42, .ref aq46, .ref aq49, .ref aq54])), (aq1, .inr (3, [.int 0, .int 0, .int 0, .int 0, .ref aq2, .ref aq3, .ref aq4, .ref aq5, .ref aq6, .ref aq7])), (aq2, .inl (cI, 68, .inl (fun _ => 0))), (aq3, .inl (cI, 4, .inl (fun _ => 0))), (aq4, .inl (cI, 4, .inl (fun _ => 0))), (aq5, .inl (cI, 40, .inl (fun _ => 0))), (aq6, .inl (cI, 40, .inl (fun _ => 0))), (aq7, .inl (cI, 40, .inl (fun _ => 0))), (aq8, .inr (6, [.int 0, .int 0, .int 0, .ref aq9, .ref aq10, .ref aq11])), (aq9, .inl (cI, 80, .inl (fun _ => 0))), (aq10, .inl (cI, 8, .inl (fun _ => 0))), (aq11, .inr (9, [.int 0, .int 0, .ref aq12, .ref aq13, .ref aq14])), (aq12, .inl (cI, 160, .inl (fun _ => 0))), (aq13, .inl (cI, 8, .inl (fun _ => 0))), (aq14, .inl (cI, 160, .inl (fun _ => 0))), (aq15, .inr (5, [.int 1, .int 8, .int 0, .ref aq16])), (aq16, .inl (cI, 8, .inl (fun _ => 0))), (aq17, .inr (9, [.int 0, .int 0, .ref aq18, .ref aq19, .ref aq20])), (aq18, .inl (cI, 160, .inl (fun _ => 0))), (aq19, .inl (cI, 8, .inl (fun _ => 0))), (aq20, .inl (cI, 160, .inl (fun _ => 0))), (aq21, .inr (9, [.int 0, .int 0, .ref aq22, .ref aq23, .ref aq24])), (aq22, .inl (cI, 160, .inl (fun _ => 0))), (aq23, .inl (cI, 8, .inl (fun _ => 0))), (aq24, .inl (cI, 160, .inl (fun _ => 0))), (aq25, .inr (4, [.ref aq21, .ref aq1, .ref aq26, .ref aq27, .ref aq28, .ref aq29, .int 1, .int 0])), (aq26, .inl (cI, 64, .inl (fun _ => 0))), (aq27, .inl (cI, 64, .inl (fun _ => 0))), (aq28, .inl (cI, 4096, .inl (fun _ => 0))), (aq29, .inl (cI, 4096, .inl (fun _ => 0))), (aq30, .inr (0, [.ref aq25, .ref aq15, .ref aq31, .ref aq32, .ref aq33, .ref aq34, .ref aq35, .ref aq36, .int 0, .int (-1), .int 0, .int 0, .int 0])), (aq31, .inl (cI, 350, .inl (fun _ => 0))), (aq32, .inl (cI, 1400, .inl (fun _ => 0))), (aq33, .inl (cI, 3159, .inl (fun _ => 0))), (aq34, .inl (cI, 3159, .inl (fun _ => 0))), (aq35, .inl (cI, 1024, .inl (fun _ => 0))), (aq36, .inl (cI, 350, .inl (fun _ => 0))), (aq37, .inr (7, [.int 0, .int 0, .ref aq38, .ref aq39, .ref aq40, .ref aq41])), (aq38, .inl (cI, 20, .inl (fun _ => 0))), (aq39, .inl (cI, 20, .inl (fun _ => 0))), (aq40, .inl (cI, 20, .inl (fun _ => 0))), (aq41, .inl (cI, 24, .inl (fun _ => 0))), (aq42, .inr (2, [.ref aq37, .ref aq25, .ref aq30, .ref aq15, .ref aq17, .ref aq43, .ref aq44, .ref aq45, .int 0])), (aq43, .inl (cI, 8, .inl (fun _ => 0))), (aq44, .inl (cI, 8, .inl (fun _ => 0))), (aq45, .inl (cI, 8, .inl (fun _ => 0))), (aq46, .inr (1, [.int 0, .ref aq47, .ref aq48])), (aq47, .inl (cI, 12, .inl (fun _ => 0))), (aq48, .inl (cI, 12, .inl (fun _ => 0))), (aq49, .inr (8, [.ref aq37, .ref aq50, .ref aq51, .ref aq52, .ref aq53])), (aq50, .inl (cI, 6, .inl (upd (upd (upd (upd (upd (upd (fun _ => 0) 0 (-2)) 1 (-2)) 2 (-2)) 3 (-2)) 4 (-2)) 5 (-2)))), (aq51, .inl (cI, 6, .inl (fun _ => 0))), (aq52, .inl (cI, 6, .inl (upd (upd (upd (upd (upd (upd (fun _ => 0) 0 (-1)) 1 (-1)) 2 (-1)) 3 (-1)) 4 (-1)) 5 (-1)))), (aq53, .inl (cL, 360, .inr (.inl (fun _ => 0)))), (aq54, .inl (cI, 8, .inl (fun _ => 0)))]) (w1 := [(v0, .inr (11, [.ref mq1, .ref mq2, .ref mq3, .ref mq4, .int 0, .int 0, .int 0, .ref mq5, .ref mq6, .int 0, .int 1, .ref mq7, .int 8, .int 0, .ref mq8, .int 0, .ref mq9, .ref mq10, .int 0, .int 0, .int 0, .int 0, .int 0, .ref mq11, .ref mq12, .int 0, .int 0, .int 0, .ref mq13, .ref mq14, .int (-1), .int (-1), .int 0, .ref mq15, .ref mq16, .ref mq17, .ref mq18, .int 0, .ref mq19, .ref mq20, .ref mq21, .ref mq22, .int 0, .ref mq23, .ref mq24, .int 0, .int 0, .int 0, .ref mq25, .ref mq26, .int 0, .ref mq27, .ref mq28, .ref mq29, .ref mq30, .int 0, .int 0, .int 0, .ref mq31, .ref mq32, .ref mq33, .ref mq34])), (mq1, .inl (cI, 68, .inl (upd (upd (upd (upd (upd (upd (upd (upd (upd (upd (upd (upd (upd (upd (upd (upd (fun _ => 0) 0 100) 1 100) 2 100) 3 100) 4 100) 5 100) 6 100) 7 100) 8 100) 9 100) 10 100) 11 100) 12 100) 13 100) 14 100) 15 100))), (mq2, .inl (cI, 40, .inl (fun _ => 0))), (mq3, .inl (cI, 40, .inl (fun _ => 0))), (mq4, .inl (cI, 40, .inl (fun _ => 0))), (mq5, .inl (cI, 4, .inl (fun _ => 0))), (mq6, .inl (cI, 4, .inl (fun _ => 0))), (mq7, .inl (cI, 8, .inl (fun _ => 0))), (mq8, .inl (cI, 80, .inl (fun _ => 0))), (mq9, .inl (cI, 160, .inl (fun _ => 0))), (mq10, .inl (cI, 2, .inl (upd (upd (fun _ => 0) 0 (-1)) 1 (-1)))), (mq11, .inl (cI, 8, .inl (fun _ => 0))), (mq12, .inl (cI, 8, .inl (fun _ => 0))), (mq13, .inl (cI, 4, .inl (fun _ => 0))), (mq14, .inl (cI, 4, .inl (fun _ => 0))), (mq15, .inl (cI, 20, .inl (fun _ => 0))), (mq16, .inl (cI, 20, .inl (fun _ => 0))), (mq17, .inl (cI, 160, .inl (fun _ => 0))), (mq18, .inl (cI, 20, .inl (fun _ => 0))), (mq19, .inl (cI, 65536, .inl (fun _ => 0))), (mq20, .inl (cI, 65536, .inl (fun _ => 0))), (mq21, .inl (cI, 65536, .inl (fun _ => 0))), (mq22, .inl (cI, 65536, .inl (fun _ => 0))), (mq23, .inl (cI, 65536, .inl (fun _ => 0))), (mq24, .inl (cI, 5, .inl (fun _ => 0))), (mq25, .inl (cI, 12, .inl (fun _ => 0))), (mq26, .inl (cI, 12, .inl (fun _ => 0))), (mq27, .inl (cI, 12, .inl (fun _ => 0))), (mq28, .inl (cI, 12, .inl (fun _ => 0))), (mq29, .inl (cI, 12, .inl (fun _ => 0))), (mq30, .inl (cI, 24, .inl (fun _ => 0))), (mq31, .inl (cI, 6, .inl (upd (upd (upd (upd (upd (upd (fun _ => 0) 0 (-1)) 1 (-1)) 2 (-1)) 3 (-1)) 4 (-1)) 5 (-1)))), (mq32, .inl (cI, 6, .inl (fun _ => 0))), (mq33, .inl (cL, 360, .inr (.inl (fun _ => 0)))), (mq34, .inl (cL, 60, .inr (.inl (fun _ => 0))))]) hP hD [55] [0, 1, 2, 3, 4, 5, 6, 7, 8, 9, 10, 11, 12, 13, 14, 15, 16, 17, 18, 19, 20, 21, 22, 23, 24, 25, 26, 27, 28, 29, 30, 31, 32, 33, 34, 35, 36, 37, 38, 39, 40, 41, 42, 43, 44, 45, 46, 47, 48, 49, 50, 51, 52, 53, 54] rfl rfl (by decide) (by decide) hk1 hFc hP1 hD1
  generalize H1 = H at hP hS ⊢
  have hP : va_P D vwCl [(u0, .inr (10, [.ref aq1, .ref aq8, .ref aq15, .ref aq17, .ref aq21, .ref aq25, .ref aq30, .ref aq37, .ref aq42, .ref aq46, .ref aq49, .ref aq54])), (aq1, .inr (3, [.int 0, .int 0, .int 0, .int 0, .ref aq2, .ref aq3, .ref aq4, .ref aq5, .ref aq6, .ref aq7])), (aq2, .inl (cI, 68, .inl (fun _ => 0))), (aq3, .inl (cI, 4, .inl (fun _ => 0))), (aq4, .inl (cI, 4, .inl (fun _ => 0))), (aq5, .inl (cI, 40, .inl (fun _ => 0))), (aq6, .inl (cI, 40, .inl (fun _ => 0))), (aq7, .inl (cI, 40, .inl (fun _ => 0))), (aq8, .inr (6, [.int 0, .int 0, .int 0, .ref aq9, .ref aq10, .ref aq11])), (aq9, .inl (cI, 80, .inl (fun _ => 0))), (aq10, .inl (cI, 8, .inl (fun _ => 0))), (aq11, .inr (9, [.int 0, .int 0, .ref aq12, .ref aq13, .ref aq14])), (aq12, .inl (cI, 160, .inl (fun _ => 0))), (aq13, .inl (cI, 8, .inl (fun _ => 0))), (aq14, .inl (cI, 160, .inl (fun _ => 0))), (aq15, .inr (5, [.int 1, .int 8, .int 0, .ref aq16])), (aq16, .inl (cI, 8, .inl (fun _ => 0))), (aq17, .inr (9, [.int 0, .int 0, .ref aq18, .ref aq19, .ref aq20])), (aq18, .inl (cI, 160, .inl (fun _ => 0))), (aq19, .inl (cI, 8, .inl (fun _ => 0))), (aq20, .inl (cI, 160, .inl (fun _ => 0))), (aq21, .inr (9, [.int 0, .int 0, .ref aq22, .ref aq23, .ref aq24])), (aq22, .inl (cI, 160, .inl (fun _ => 0))), (aq23, .inl (cI, 8, .inl (fun _ => 0))), (aq24, .inl (cI, 160, .inl (fun _ => 0))), (aq25, .inr (4, [.ref aq21, .ref aq1, .ref aq26, .ref aq27, .ref aq28, .ref aq29, .int 1, .int 0])), (aq26, .inl (cI, 64, .inl (fun _ => 0))), (aq27, .inl (cI, 64, .inl (fun _ => 0))), (aq28, .inl (cI, 4096, .inl (fun _ => 0))), (aq29, .inl (cI, 4096, .inl (fun _ => 0))), (aq30, .inr (0, [.ref aq25, .ref aq15, .ref aq31, .ref aq32, .ref aq33, .ref aq34, .ref aq35, .ref aq36, .int 0, .int (-1), .int 0, .int 0, .int 0])), (aq31, .inl (cI, 350, .inl (fun _ => 0))), (aq32, .inl (cI, 1400, .inl (fun _ => 0))), (aq33, .inl (cI, 3159, .inl (fun _ => 0))), (aq34, .inl (cI, 3159, .inl (fun _ => 0))), (aq35, .inl (cI, 1024, .inl (fun _ => 0))), (aq36, .inl (cI, 350, .inl (fun _ => 0))), (aq37, .inr (7, [.int 0, .int 0, .ref aq38, .ref aq39, .ref aq40, .ref aq41])), (aq38, .inl (cI, 20, .inl (fun _ => 0))), (aq39, .inl (cI, 20, .inl (fun _ => 0))), (aq40, .inl (cI, 20, .inl (fun _ => 0))), (aq41, .inl (cI, 24, .inl (fun _ => 0))), (aq42, .inr (2, [.ref aq37, .ref aq25, .ref aq30, .ref aq15, .ref aq17, .ref aq43, .ref aq44, .ref aq45, .int 0])), (aq43, .inl (cI, 8, .inl (fun _ => 0))), (aq44, .inl (cI, 8, .inl (fun _ => 0))), (aq45, .inl (cI, 8, .inl (fun _ => 0))), (aq46, .inr (1, [.int 0, .ref aq47, .ref aq48])), (aq47, .inl (cI, 12, .inl (fun _ => 0))), (aq48, .inl (cI, 12, .inl (fun _ => 0))), (aq49, .inr (8, [.ref aq37, .ref aq50, .ref aq51, .ref aq52, .ref aq53])), (aq50, .inl (cI, 6, .inl (upd (upd (upd (upd (upd (upd (fun _ => 0) 0 (-2)) 1 (-2)) 2 (-2)) 3 (-2)) 4 (-2)) 5 (-2)))), (aq51, .inl (cI, 6, .inl (fun _ => 0))), (aq52, .inl (cI, 6, .inl (upd (upd (upd (upd (upd (upd (fun _ => 0) 0 (-1)) 1 (-1)) 2 (-1)) 3 (-1)) 4 (-1)) 5 (-1)))), (aq53, .inl (cL, 360, .inr (.inl (fun _ => 0)))), (aq54, .inl (cI, 8, .inl (fun _ => 0))), (v0, .inr (11, [.ref mq1, .ref mq2, .ref mq3, .ref mq4, .int 0, .int 0, .int 0, .ref mq5, .ref mq6, .int 0, .int 1, .ref mq7, .int 8, .int 0, .ref mq8, .int 0, .ref mq9, .ref mq10, .int 0, .int 0, .int 0, .int 0, .int 0, .ref mq11, .ref mq12, .int 0, .int 0, .int 0, .ref mq13, .ref mq14, .int (-1), .int (-1), .int 0, .ref mq15, .ref mq16, .ref mq17, .ref mq18, .int 0, .ref mq19, .ref mq20, .ref mq21, .ref mq22, .int 0, .ref mq23, .ref mq24, .int 0, .int 0, .int 0, .ref mq25, .ref mq26, .int 0, .ref mq27, .ref mq28, .ref mq29, .ref mq30, .int 0, .int 0, .int 0, .ref mq31, .ref mq32, .ref mq33, .ref mq34])), (mq1, .inl (cI, 68, .inl (upd (upd (upd (upd (upd (upd (upd (upd (upd (upd (upd (upd (upd (upd (upd (upd (fun _ => 0) 0 100) 1 100) 2 100) 3 100) 4 100) 5 100) 6 100) 7 100) 8 100) 9 100) 10 100) 11 100) 12 100) 13 100) 14 100) 15 100))), (mq2, .inl (cI, 40, .inl (fun _ => 0))), (mq3, .inl (cI, 40, .inl (fun _ => 0))), (mq4, .inl (cI, 40, .inl (fun _ => 0))), (mq5, .inl (cI, 4, .inl (fun _ => 0))), (mq6, .inl (cI, 4, .inl (fun _ => 0))), (mq7, .inl (cI, 8, .inl (fun _ => 0))), (mq8, .inl (cI, 80, .inl (fun _ => 0))), (mq9, .inl (cI, 160, .inl (fun _ => 0))), (mq10, .inl (cI, 2, .inl (upd (upd (fun _ => 0) 0 (-1)) 1 (-1)))), (mq11, .inl (cI, 8, .inl (fun _ => 0))), (mq12, .inl (cI, 8, .inl (fun _ => 0))), (mq13, .inl (cI, 4, .inl (fun _ => 0))), (mq14, .inl (cI, 4, .inl (fun _ => 0))), (mq15, .inl (cI, 20, .inl (fun _ => 0))), (mq16, .inl (cI, 20, .inl (fun _ => 0))), (mq17, .inl (cI, 160, .inl (fun _ => 0))), (mq18, .inl (cI, 20, .inl (fun _ => 0))), (mq19, .inl (cI, 65536, .inl (fun _ => 0))), (mq20, .inl (cI, 65536, .inl (fun _ => 0))), (mq21, .inl (cI, 65536, .inl (fun _ => 0))), (mq22, .inl (cI, 65536, .inl (fun _ => 0))), (mq23, .inl (cI, 65536, .inl (fun _ => 0))), (mq24, .inl (cI, 5, .inl (fun _ => 0))), (mq25, .inl (cI, 12, .inl (fun _ => 0))), (mq26, .inl (cI, 12, .inl (fun _ => 0))), (mq27, .inl (cI, 12, .inl (fun _ => 0))), (mq28, .inl (cI, 12, .inl (fun _ => 0))), (mq29, .inl (cI, 12, .inl (fun _ => 0))), (mq30, .inl (cI, 24, .inl (fun _ => 0))), (mq31, .inl (cI, 6, .inl (upd (upd (upd (upd (upd (upd (fun _ => 0) 0 (-1)) 1 (-1)) 2 (-1)) 3 (-1)) 4 (-1)) 5 (-1)))), (mq32, .inl (cI, 6, .inl (fun _ => 0))), (mq33, .inl (cL, 360, .inr (.inl (fun _ => 0)))), (mq34, .inl (cL, 60, .inr (.inl (fun _ => 0))))] H := hP
  have hD : va_D (fun q : Nat => s.heap.size ≤ q) [(u0, .inr (10, [.ref aq1, .ref aq8, .ref aq15, .ref aq17, .ref aq21, .ref aq25, .ref aq30, .ref aq37, .ref aq42, .ref aq46, .ref aq49, .ref aq54])), (aq1, .inr (3, [.int 0, .int 0, .int 0, .int 0, .ref aq2, .ref aq3, .ref aq4, .ref aq5, .ref aq6, .ref aq7])), (aq2, .inl (cI, 68, .inl (fun _ => 0))), (aq3, .inl (cI, 4, .inl (fun _ => 0))), (aq4, .inl (cI, 4, .inl (fun _ => 0))), (aq5, .inl (cI, 40, .inl (fun _ => 0))), (aq6, .inl (cI, 40, .inl (fun _ => 0))), (aq7, .inl (cI, 40, .inl (fun _ => 0))), (aq8, .inr (6, [.int 0, .int 0, .int 0, .ref aq9, .ref aq10, .ref aq11])), (aq9, .inl (cI, 80, .inl (fun _ => 0))), (aq10, .inl (cI, 8, .inl (fun _ => 0))), (aq11, .inr (9, [.int 0, .int 0, .ref aq12, .ref aq13, .ref aq14])), (aq12, .inl (cI, 160, .inl (fun _ => 0))), (aq13, .inl (cI, 8, .inl (fun _ => 0))), (aq14, .inl (cI, 160, .inl (fun _ => 0))), (aq15, .inr (5, [.int 1, .int 8, .int 0, .ref aq16])), (aq16, .inl (cI, 8, .inl (fun _ => 0))), (aq17, .inr (9, [.int 0, .int 0, .ref aq18, .ref aq19, .ref aq20])), (aq18, .inl (cI, 160, .inl (fun _ => 0))), (aq19, .inl (cI, 8, .inl (fun _ => 0))), (aq20, .inl (cI, 160, .inl (fun _ => 0))), (aq21, .inr (9, [.int 0, .int 0, .ref aq22, .ref aq23, .ref aq24])), (aq22, .inl (cI, 160, .inl (fun _ => 0))), (aq23, .inl (cI, 8, .inl (fun _ => 0))), (aq24, .inl (cI, 160, .inl (fun _ => 0))), (aq25, .inr (4, [.ref aq21, .ref aq1, .ref aq26, .ref aq27, .ref aq28, .ref aq29, .int 1, .int 0])), (aq26, .inl (cI, 64, .inl (fun _ => 0))), (aq27, .inl (cI, 64, .inl (fun _ => 0))), (aq28, .inl (cI, 4096, .inl (fun _ => 0))), (aq29, .inl (cI, 4096, .inl (fun _ => 0))), (aq30, .inr (0, [.ref aq25, .ref aq15, .ref aq31, .ref aq32, .ref aq33, .ref aq34, .ref aq35, .ref aq36, .int 0, .int (-1), .int 0, .int 0, .int 0])), (aq31, .inl (cI, 350, .inl (fun _ => 0))), (aq32, .inl (cI, 1400, .inl (fun _ => 0))), (aq33, .inl (cI, 3159, .inl (fun _ => 0))), (aq34, .inl (cI, 3159, .inl (fun _ => 0))), (aq35, .inl (cI, 1024, .inl (fun _ => 0))), (aq36, .inl (cI, 350, .inl (fun _ => 0))), (aq37, .inr (7, [.int 0, .int 0, .ref aq38, .ref aq39, .ref aq40, .ref aq41])), (aq38, .inl (cI, 20, .inl (fun _ => 0))), (aq39, .inl (cI, 20, .inl (fun _ => 0))), (aq40, .inl (cI, 20, .inl (fun _ => 0))), (aq41, .inl (cI, 24, .inl (fun _ => 0))), (aq42, .inr (2, [.ref aq37, .ref aq25, .ref aq30, .ref aq15, .ref aq17, .ref aq43, .ref aq44, .ref aq45, .int 0])), (aq43, .inl (cI, 8, .inl (fun _ => 0))), (aq44, .inl (cI, 8, .inl (fun _ => 0))), (aq45, .inl (cI, 8, .inl (fun _ => 0))), (aq46, .inr (1, [.int 0, .ref aq47, .ref aq48])), (aq47, .inl (cI, 12, .inl (fun _ => 0))), (aq48, .inl (cI, 12, .inl (fun _ => 0))), (aq49, .inr (8, [.ref aq37, .ref aq50, .ref aq51, .ref aq52, .ref aq53])), (aq50, .inl (cI, 6, .inl (upd (upd (upd (upd (upd (upd (fun _ => 0) 0 (-2)) 1 (-2)) 2 (-2)) 3 (-2)) 4 (-2)) 5 (-2)))), (aq51, .inl (cI, 6, .inl (fun _ => 0))), (aq52, .inl (cI, 6, .inl (upd (upd (upd (upd (upd (upd (fun _ => 0) 0 (-1)) 1 (-1)) 2 (-1)) 3 (-1)) 4 (-1)) 5 (-1)))), (aq53, .inl (cL, 360, .inr (.inl (fun _ => 0)))), (aq54, .inl (cI, 8, .inl (fun _ => 0))), (v0, .inr (11, [.ref mq1, .ref mq2, .ref mq3, .ref mq4, .int 0, .int 0, .int 0, .ref mq5, .ref mq6, .int 0, .int 1, .ref mq7, .int 8, .int 0, .ref mq8, .int 0, .ref mq9, .ref mq10, .int 0, .int 0, .int 0, .int 0, .int 0, .ref mq11, .ref mq12, .int 0, .int 0, .int 0, .ref mq13, .ref mq14, .int (-1), .int (-1), .int 0, .ref mq15, .ref mq16, .ref mq17, .ref mq18, .int 0, .ref mq19, .ref mq20, .ref mq21, .ref mq22, .int 0, .ref mq23, .ref mq24, .int 0, .int 0, .int 0, .ref mq25, .ref mq26, .int 0, .ref mq27, .ref mq28, .ref mq29, .ref mq30, .int 0, .int 0, .int 0, .ref mq31, .ref mq32, .ref mq33, .ref mq34])), (mq1, .inl (cI, 68, .inl (upd (upd (upd (upd (upd (upd (upd (upd (upd (upd (upd (upd (upd (upd (upd (upd (fun _ => 0) 0 100) 1 100) 2 100) 3 100) 4 100) 5 100) 6 100) 7 100) 8 100) 9 100) 10 100) 11 100) 12 100) 13 100) 14 100) 15 100))), (mq2, .inl (cI, 40, .inl (fun _ => 0))), (mq3, .inl (cI, 40, .inl (fun _ => 0))), (mq4, .inl (cI, 40, .inl (fun _ => 0))), (mq5, .inl (cI, 4, .inl (fun _ => 0))), (mq6, .inl (cI, 4, .inl (fun _ => 0))), (mq7, .inl (cI, 8, .inl (fun _ => 0))), (mq8, .inl (cI, 80, .inl (fun _ => 0))), (mq9, .inl (cI, 160, .inl (fun _ => 0))), (mq10, .inl (cI, 2, .inl (upd (upd (fun _ => 0) 0 (-1)) 1 (-1)))), (mq11, .inl (cI, 8, .inl (fun _ => 0))), (mq12, .inl (cI, 8, .inl (fun _ => 0))), (mq13, .inl (cI, 4, .inl (fun _ => 0))), (mq14, .inl (cI, 4, .inl (fun _ => 0))), (mq15, .inl (cI, 20, .inl (fun _ => 0))), (mq16, .inl (cI, 20, .inl (fun _ => 0))), (mq17, .inl (cI, 160, .inl (fun _ => 0))), (mq18, .inl (cI, 20, .inl (fun _ => 0))), (mq19, .inl (cI, 65536, .inl (fun _ => 0))), (mq20, .inl (cI, 65536, .inl (fun _ => 0))), (mq21, .inl (cI, 65536, .inl (fun _ => 0))), (mq22, .inl (cI, 65536, .inl (fun _ => 0))), (mq23, .inl (cI, 65536, .inl (fun _ => 0))), (mq24, .inl (cI, 5, .inl (fun _ => 0))), (mq25, .inl (cI, 12, .inl (fun _ => 0))), (mq26, .inl (cI, 12, .inl (fun _ => 0))), (mq27, .inl (cI, 12, .inl (fun _ => 0))), (mq28, .inl (cI, 12, .inl (fun _ => 0))), (mq29, .inl (cI, 12, .inl (fun _ => 0))), (mq30, .inl (cI, 24, .inl (fun _ => 0))), (mq31, .inl (cI, 6, .inl (upd (upd (upd (upd (upd (upd (fun _ => 0) 0 (-1)) 1 (-1)) 2 (-1)) 3 (-1)) 4 (-1)) 5 (-1)))), (mq32, .inl (cI, 6, .inl (fun _ => 0))), (mq33, .inl (cL, 360, .inr (.inl (fun _ => 0)))), (mq34, .inl (cL, 60, .inr (.inl (fun _ => 0))))] := hD
  refine W.widen (k := 90) (n := 348600) (Nat.le_of_ble_eq_true rfl) (Nat.le_of_ble_eq_true rfl) ?_
  refine lv_astore_n (lv' := [(2, .ref v0), (1, .ref u0), (0, .ref b)]) hx hb dL_law_15 rfl hl (by decide) rfl (fun ls hl => ?_)
  refine lv_iconst (v := 0) hx hb dL_law_16 (by decide) ?_
  refine lv_istore_n (lv' := [(3, .int 0), (2, .ref v0), (1, .ref u0), (0, .ref b)]) hx hb dL_law_17 rfl hl (by decide) rfl (fun ls hl => ?_)
  obtain ⟨ad, ead⟩ : ∃ f : Nat → Nat, f = fun i => [u0, aq54, aq1, aq2, aq3, aq4, aq5, aq6, aq7, aq8, aq9, aq10, aq11, aq12, aq13, aq14, aq15, aq16, aq17, aq18, aq19, aq20, aq21, aq22, aq23, aq24, aq25, aq26, aq27, aq28, aq29, aq30, aq31, aq32, aq33, aq34, aq35, aq36, aq37, aq38, aq39, aq40, aq41, aq42, aq43, aq44, aq45, aq46, aq47, aq48, aq49, aq50, aq51, aq52, aq53, v0, mq1, mq2, mq3, mq4, mq5, mq6, mq7, mq8, mq9, mq10, mq11, mq12, mq13, mq14, mq15, mq16, mq17, mq18, mq19, mq20, mq21, mq22, mq23, mq24, mq25, mq26, mq27, mq28, mq29, mq30, mq31, mq32, mq33, mq34].getD i 0 := ⟨_, rfl⟩
  have hPj : jH D cI cL ad sg0 tu0 H := by
    rw [ead]
    exact hP.sub (ws' := jw cI cL (fun i => [u0, aq54, aq1, aq2, aq3, aq4, aq5, aq6, aq7, aq8, aq9, aq10, aq11, aq12, aq13, aq14, aq15, aq16, aq17, aq18, aq19, aq20, aq21, aq22, aq23, aq24, aq25, aq26, aq27, aq28, aq29, aq30, aq31, aq32, aq33, aq34, aq35, aq36, aq37, aq38, aq39, aq40, aq41, aq42, aq43, aq44, aq45, aq46, aq47, aq48, aq49, aq50, aq51, aq52, aq53, v0, mq1, mq2, mq3, mq4, mq5, mq6, mq7, mq8, mq9, mq10, mq11, mq12, mq13, mq14, mq15, mq16, mq17, mq18, mq19, mq20, mq21, mq22, mq23, mq24, mq25, mq26, mq27, mq28, mq29, mq30, mq31, mq32, mq33, mq34].getD i 0) sg0 tu0) [0, 54, 1, 2, 3, 4, 5, 6, 7, 8, 9, 10, 11, 12, 13, 14, 15, 16, 17, 18, 19, 20, 21, 22, 23, 24, 25, 26, 27, 28, 29, 30, 31, 32, 33, 34, 35, 36, 37, 38, 39, 40, 41, 42, 43, 44, 45, 46, 47, 48, 49, 50, 51, 52, 53, 55, 56, 57, 58, 59, 60, 61, 62, 63, 64, 65, 66, 67, 68, 69, 70, 71, 72, 73, 74, 75, 76, 77, 78, 79, 80, 81, 82, 83, 84, 85, 86, 87, 88, 89] rfl
  have hDj : va_D (fun q : Nat => s.heap.size ≤ q) (jw cI cL ad sg0 tu0) := by
    rw [ead]
    exact hD.sub (ws' := jw cI cL (fun i => [u0, aq54, aq1, aq2, aq3, aq4, aq5, aq6, aq7, aq8, aq9, aq10, aq11, aq12, aq13, aq14, aq15, aq16, aq17, aq18, aq19, aq20, aq21, aq22, aq23, aq24, aq25, aq26, aq27, aq28, aq29, aq30, aq31, aq32, aq33, aq34, aq35, aq36, aq37, aq38, aq39, aq40, aq41, aq42, aq43, aq44, aq45, aq46, aq47, aq48, aq49, aq50, aq51, aq52, aq53, v0, mq1, mq2, mq3, mq4, mq5, mq6, mq7, mq8, mq9, mq10, mq11, mq12, mq13, mq14, mq15, mq16, mq17, mq18, mq19, mq20, mq21, mq22, mq23, mq24, mq25, mq26, mq27, mq28, mq29, mq30, mq31, mq32, mq33, mq34].getD i 0) sg0 tu0) [0, 54, 1, 2, 3, 4, 5, 6, 7, 8, 9, 10, 11, 12, 13, 14, 15, 16, 17, 18, 19, 20, 21, 22, 23, 24, 25, 26, 27, 28, 29, 30, 31, 32, 33, 34, 35, 36, 37, 38, 39, 40, 41, 42, 43, 44, 45, 46, 47, 48, 49, 50, 51, 52, 53, 55, 56, 57, 58, 59, 60, 61, 62, 63, 64, 65, 66, 67, 68, 69, 70, 71, 72, 73, 74, 75, 76, 77, 78, 79, 80, 81, 82, 83, 84, 85, 86, 87, 88, 89] (by decide) rfl
  have hlen : ∀ i, i < jn → ∃ q, (jw cI cL ad sg0 tu0)[i]? = some q ∧ q.1 = ad i := by
    intro i hi
    have hlt : i < (jw cI cL ad sg0 tu0).length := hi
    exact ⟨_, List.getElem?_eq_getElem hlt, (jw_at (List.getElem?_eq_getElem hlt)).2⟩
  have hJ : jD ad := by
    intro i j hi hj h
    obtain ⟨q1, h1, h2⟩ := hlen i hi
    obtain ⟨q2, h3, h4⟩ := hlen j hj
    exact hDj.1 i j q1 q2 h1 h3 (by rw [h2, h4, h])
  have hAj : ∀ q, jA ad q → s.heap.size ≤ q := by
    rintro q ⟨i, hi, rfl⟩
    obtain ⟨q1, h1, h2⟩ := hlen i hi
    have := hDj.2 i q1 h1
    rw [h2] at this
    exact this
  have e0 : ad 0 = u0 := by rw [ead]; rfl
  have e55 : ad 55 = v0 := by rw [ead]; rfl
  exact law_loop l C1 hJ hAj hK hL hS hPj (by rw [e0, e55]; exact lv_sub hl [0, 1, 2, 3] rfl)

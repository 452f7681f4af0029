/-! THE CLAIM OUT OF ONE WALK OF THE LAW'S BODY. Your part is whole_start (and what it stands on); all else here is the same for every law, but numbers. -/
def R_law : String := "ChangeBowlerLaw"
def lw_P (b : Addr) (xs : List Int32) (args : Array Value) (s : State) : Prop := args = #[.ref b] ∧ s.IntsAt b xs ∧ xs.length ≤ 384 ∧ (Jvm.Cond.and given_1 narrow_1).before args s = true
def lw_Q (_ : Array Value) (s : State) (o : Outcome) (t : State) : Prop := o = .returned (some (.int 1)) ∧ Framed s o t [] 600000 7302250
def lw_Z (below : List Frame) (a : Array Value) (s : State) : State → Prop := fun t => ∃ o, t.status = .running ∧ Ended t below o ∧ lw_Q a s o t
/-- the law's own end, with 1 on the stack, nothing written that was there before, its room as the claim has it -/
theorem lw_ret {p : Program} {l : Launch} {e : Env} {s : State} {m : MethodId} {below : List Frame} {meth : Method} {c : Code} {b : Nat} (hx : p.tables.exec = Jvm.exec) (hb : c.code = code) (hr : meth.sig.returnType = ret) (hlocks : meth.locks = false) {pc : Nat} {H : Heap} {ls : Array Slot} (hdg : decode code pc = .ok (.ireturn, 1)) : W p l e room_1 s m #[Value.ref b] below meth c H [] 600000 7302250 (lw_Z below #[Value.ref b] s) (F0 m pc ls [.int 1]) := by
  intro T hT X
  obtain ⟨fs, hret, hrun, hended, hW, hframe⟩ := X.leave (v := some (.int 1)) (hlocks := hlocks) (fun h => by rw [hr] at h; cases h)
  have hmeth' : T.vm.method? m = some meth := X.method'
  refine ⟨T.setFrames fs, ?_, .returned (some (.int 1)), hrun, hended, rfl, ⟨_, rfl⟩, hW, hframe⟩
  jvm_step X.here [X.here.top, hx, hb, hdg, hmeth', hr, ret, narrow_b1]
  (try refine ⟨rfl, ?_⟩); (try refine ⟨rfl, ?_⟩)
  first | (intro acts; rw [hret _ acts rfl rfl rfl]) | rw [hret _ _ rfl rfl rfl]
  exact Steps.refl _
/-- what holds at the law's entry: the machine, the code, the tables' words (any of lw_tbl by 'hts w (by decide +kernel)'), the script of L ints xs at the cell b, what the Statement gives of the start (any of its parts by flat_of_before) -/
def lw_At (p : Program) (s : State) (m : MethodId) (meth : Method) (c : Code) (b L : Nat) (xs : Nat → Int32) : Prop :=
  p.tables.exec = Jvm.exec ∧ c.code = code ∧ meth.sig.returnType = ret ∧ c.maxLocals = 4 ∧ s.vm.findClass R_law = some m.cls ∧ (∀ w ∈ lw_tbl, w.before #[Value.ref b] s = true) ∧ va_X b L xs s s.heap ∧ b < s.heap.size ∧ meth.locks = false ∧ (Jvm.Cond.and given_1 narrow_1).before #[Value.ref b] s = true
/-- what the cells hold at first -/
def sg0 : Nat → Nat → Int32 := fun i => [(fun k => [(0 : Int32), (0 : Int32), (0 : Int32), (0 : Int32), (0 : Int32), (0 : Int32), (0 : Int32), (0 : Int32), (0 : Int32), (0 : Int32), (0 : Int32), (0 : Int32)].getD k 0),
  (fun _ => 0),
  (fun k => [0, 0, 0, 0, (0 : Int32), (0 : Int32), (0 : Int32), (0 : Int32), (0 : Int32), (0 : Int32)].getD k 0),
  (fun _ => 0),
  (fun _ => 0),
  (fun _ => 0),
  (fun _ => 0),
  (fun _ => 0),
  (fun _ => 0),
  (fun k => [0, 0, 0, (0 : Int32), (0 : Int32), (0 : Int32)].getD k 0),
  (fun _ => 0),
  (fun _ => 0),
  (fun k => [0, 0, (0 : Int32), (0 : Int32), (0 : Int32)].getD k 0),
  (fun _ => 0),
  (fun _ => 0),
  (fun _ => 0),
  (fun k => [1, 8, 0, (0 : Int32)].getD k 0),
  (fun _ => 0),
  (fun k => [0, 0, (0 : Int32), (0 : Int32), (0 : Int32)].getD k 0),
  (fun _ => 0),
  (fun _ => 0),
  (fun _ => 0),
  (fun k => [0, 0, (0 : Int32), (0 : Int32), (0 : Int32)].getD k 0),
  (fun _ => 0),
  (fun _ => 0),
  (fun _ => 0),
  (fun k => [(0 : Int32), (0 : Int32), (0 : Int32), (0 : Int32), (0 : Int32), (0 : Int32), 1, 0].getD k 0),
  (fun _ => 0),
  (fun _ => 0),
  (fun _ => 0),
  (fun _ => 0),
  (fun k => [(0 : Int32), (0 : Int32), (0 : Int32), (0 : Int32), (0 : Int32), (0 : Int32), (0 : Int32), (0 : Int32), 0, (-1), 0, 0, 0].getD k 0),
  (fun _ => 0),
  (fun _ => 0),
  (fun _ => 0),
  (fun _ => 0),
  (fun _ => 0),
  (fun _ => 0),
  (fun k => [0, 0, (0 : Int32), (0 : Int32), (0 : Int32), (0 : Int32)].getD k 0),
  (fun _ => 0),
  (fun _ => 0),
  (fun _ => 0),
  (fun _ => 0),
  (fun k => [(0 : Int32), (0 : Int32), (0 : Int32), (0 : Int32), (0 : Int32), (0 : Int32), (0 : Int32), (0 : Int32), 0].getD k 0),
  (fun _ => 0),
  (fun _ => 0),
  (fun _ => 0),
  (fun k => [0, (0 : Int32), (0 : Int32)].getD k 0),
  (fun _ => 0),
  (fun _ => 0),
  (fun k => [(0 : Int32), (0 : Int32), (0 : Int32), (0 : Int32), (0 : Int32)].getD k 0),
  (upd (upd (upd (upd (upd (upd (fun _ => 0) 0 (-2)) 1 (-2)) 2 (-2)) 3 (-2)) 4 (-2)) 5 (-2)),
  (fun _ => 0),
  (upd (upd (upd (upd (upd (upd (fun _ => 0) 0 (-1)) 1 (-1)) 2 (-1)) 3 (-1)) 4 (-1)) 5 (-1)),
  (fun _ => 0),
  (fun k => [(0 : Int32), (0 : Int32), (0 : Int32), (0 : Int32), 0, 0, 0, (0 : Int32), (0 : Int32), 0, 1, (0 : Int32), 8, 0, (0 : Int32), 0, (0 : Int32), (0 : Int32), 0, 0, 0, 0, 0, (0 : Int32), (0 : Int32), 0, 0, 0, (0 : Int32), (0 : Int32), (-1), (-1), 0, (0 : Int32), (0 : Int32), (0 : Int32), (0 : Int32), 0, (0 : Int32), (0 : Int32), (0 : Int32), (0 : Int32), 0, (0 : Int32), (0 : Int32), 0, 0, 0, (0 : Int32), (0 : Int32), 0, (0 : Int32), (0 : Int32), (0 : Int32), (0 : Int32), 0, 0, 0, (0 : Int32), (0 : Int32), (0 : Int32), (0 : Int32)].getD k 0),
  (upd (upd (upd (upd (upd (upd (upd (upd (upd (upd (upd (upd (upd (upd (upd (upd (fun _ => 0) 0 100) 1 100) 2 100) 3 100) 4 100) 5 100) 6 100) 7 100) 8 100) 9 100) 10 100) 11 100) 12 100) 13 100) 14 100) 15 100),
  (fun _ => 0),
  (fun _ => 0),
  (fun _ => 0),
  (fun _ => 0),
  (fun _ => 0),
  (fun _ => 0),
  (fun _ => 0),
  (fun _ => 0),
  (upd (upd (fun _ => 0) 0 (-1)) 1 (-1)),
  (fun _ => 0),
  (fun _ => 0),
  (fun _ => 0),
  (fun _ => 0),
  (fun _ => 0),
  (fun _ => 0),
  (fun _ => 0),
  (fun _ => 0),
  (fun _ => 0),
  (fun _ => 0),
  (fun _ => 0),
  (fun _ => 0),
  (fun _ => 0),
  (fun _ => 0),
  (fun _ => 0),
  (fun _ => 0),
  (fun _ => 0),
  (fun _ => 0),
  (fun _ => 0),
  (fun _ => 0),
  (upd (upd (upd (upd (upd (upd (fun _ => 0) 0 (-1)) 1 (-1)) 2 (-1)) 3 (-1)) 4 (-1)) 5 (-1)),
  (fun _ => 0),
  (fun _ => 0),
  (fun _ => 0)].getD i (fun _ => 0)
def tu0 : Nat → Nat → Int64 := fun _ _ => 0
/-- what holds between calls -/
def jAll (X : Int) (σ : Nat → Nat → Int32) (τ : Nat → Nat → Int64) : Prop := (jI2 σ) ∧ (jI9 σ) ∧ (jI12 σ) ∧ (jI16 σ) ∧ (jI18 σ) ∧ (jI22 σ) ∧ (jI31 σ) ∧ (jI38 σ) ∧ (jI43 σ) ∧ (jI47 σ) ∧ (jI50 σ) ∧ (jI0 σ) ∧ (jI26 σ) ∧ (jI101 σ) ∧ (jI102 σ) ∧ (jI103 σ) ∧ (jI104 σ) ∧ (jI105 σ) ∧ (jI106 σ) ∧ (jI107 σ) ∧ (jI109 σ) ∧ (jI110 σ) ∧ (jI111 σ) ∧ (jI119 σ) ∧ (jKept σ) ∧ (jBook σ) ∧ (jNd12 σ) ∧ (jN67 σ) ∧ (jBl σ) ∧ (jKb σ) ∧ (jTR σ) ∧ (jKh σ) ∧ (jKg σ) ∧ (jNz σ) ∧ (jqSt σ) ∧ ((σ 2 0).toInt = (σ 55 6).toInt) ∧ ((σ 2 2).toInt = (σ 55 5).toInt) ∧ ((σ 2 2).toInt + (σ 2 3).toInt = (σ 55 4).toInt) ∧ ((σ 9 0).toInt = (σ 55 15).toInt) ∧ ((σ 16 0).toInt = (σ 55 10).toInt) ∧ ((σ 16 1).toInt = (σ 55 12).toInt) ∧ ((σ 16 2).toInt = (σ 55 13).toInt) ∧ ((σ 38 0).toInt = (σ 55 32).toInt) ∧ ((σ 38 1).toInt = (σ 55 55).toInt) ∧ ((σ 47 0).toInt = (σ 55 47).toInt) ∧ ((σ 55 30).toInt = (-1)) ∧ ((σ 55 31).toInt = (-1)) ∧ ((σ 2 1).toInt = (σ 55 9).toInt) ∧ (0 ≤ (σ 55 42).toInt) ∧ (6 * (σ 26 6).toInt ≤ X + 6) ∧ (6 * (σ 55 42).toInt ≤ 1024 * X) ∧ (jNumP (σ 3) (σ 56) (σ 6) (σ 57) (σ 7) (σ 58) (σ 8) (σ 59) (σ 55 6).toInt (σ 55 4).toInt) ∧ (jOvP (σ 56) (σ 57) (σ 58) (σ 59) (σ 55 4).toInt) ∧ (jTp (σ 10) (σ 63) (σ 55 15).toInt) ∧ (jSo (σ 17) (σ 62) (σ 16 0).toInt) ∧ (jShP (σ 51) (σ 52) (σ 53) (σ 86) (σ 87) (σ 55 32).toInt) ∧ (jEl (σ 51) (σ 52) (τ 54) (τ 88)) ∧ (jByP (σ 51) (σ 52) (τ 54)) ∧ (jBk (σ 48) (σ 80) (σ 49) (σ 81) (σ 55 47).toInt) ∧ (jKd (σ 39) (σ 70) (σ 55 32).toInt) ∧ (jTt (σ 42) (σ 85) (σ 55 55).toInt) ∧ (∀ k : Nat, (k : Int) < (σ 55 6).toInt → σ 4 k = σ 60 k ∧ σ 5 k = σ 61 k) ∧ (∀ nm : Nat → Int32, jGc (σ 19) (σ 18 0).toInt nm = jGr (fun k : Nat => σ 64 (80 * 0 + k)) (σ 65 0).toInt nm) ∧ (∀ nm : Nat → Int32, jGc (σ 23) (σ 22 0).toInt nm = jGr (fun k : Nat => σ 64 (80 * 1 + k)) (σ 65 1).toInt nm) ∧ (jAlP (σ 56) (σ 57) (σ 58) (σ 59) (σ 55 4).toInt) ∧ (jqbN (σ 80) (σ 55 47).toInt)

/-! the best, once more -/
/-! the best: what it reads, and no more -/
theorem jV_cong {ch ch' : Nat → Int → Int → Int → Int → Int → Int} {rn rn' : Nat → Int → Int → Int} {so so' : Nat → Int} {n R w0 O B : Int} (hs : ∀ z : Nat, w0 ≤ (z : Int) → (z : Int) < n → so z = so' z ∧ 0 ≤ so z ∧ so z ≤ 3)
    (hc : ∀ (b : Nat) (s t l o w : Int), b < 4 → (b : Int) < B → (0 ≤ s ∧ s ≤ 3) → (0 ≤ t ∧ t ≤ 3) → (0 ≤ l ∧ l ≤ 15) → (0 ≤ o ∧ o < O) → (0 ≤ w ∧ w < n) → ch b s t l o w = ch' b s t l o w) (hr : ∀ (b : Nat) (s t : Int), b < 4 → (b : Int) < B → (0 ≤ s ∧ s ≤ 3) → (0 ≤ t ∧ t ≤ 3) → rn b s t = rn' b s t) :
    ∀ (k : Nat) (last : Int) (lf st : Nat → Int) (o w : Int), (∀ c : Nat, c < 4 → (0 ≤ lf c ∧ lf c ≤ 15) ∧ (0 ≤ st c ∧ st c ≤ 3) ∧ (B ≤ (c : Int) → lf c = 0)) → 0 ≤ o → o + (k : Int) ≤ O → 0 ≤ w → w0 ≤ w → jV ch rn so n R k last lf st o w = jV ch' rn' so' n R k last lf st o w
  | 0, _, _, _, _, _, _, _, _, _, _ => rfl
  | k + 1, last, lf, st, o, w, hf, o0, oO, w0', ww => by
    rw [jV, jV]
    by_cases c : n ≤ w
    · rw [if_pos c, if_pos c]
    rw [if_neg c, if_neg c]
    obtain ⟨e1, e2, e3⟩ := hs w.toNat (by omega) (by omega)
    refine jPk_eq (fun _ _ => rfl) (fun b hb hm => ?_)
    have hm := of_decide_eq_true hm
    obtain ⟨f1, f2, f3⟩ := hf b hb
    have bB : (b : Int) < B := Int.not_le.mp (fun z => by have := f3 z; omega)
    have g : ∀ x : Nat, x < 4 → (0 ≤ jLn lf b x ∧ jLn lf b x ≤ 15) ∧ (0 ≤ jSn st b x ∧ jSn st b x ≤ 3) ∧ (B ≤ (x : Int) → jLn lf b x = 0) := fun x hx => by
      obtain ⟨a1, a2, a3⟩ := hf x hx
      unfold jLn jSn
      by_cases e : x = b
      · rw [if_pos e, if_pos e]; refine ⟨by omega, ?_, fun z => by omega⟩; split <;> omega
      · rw [if_neg e, if_neg e]; refine ⟨by omega, ?_, a3⟩; split <;> omega
    rw [← e1, hc b _ _ _ _ _ hb bB ⟨e2, e3⟩ f2 f1 ⟨o0, by omega⟩ ⟨w0', by omega⟩, hr b _ _ hb bB ⟨e2, e3⟩ f2, jV_cong hs hc hr k _ _ _ _ _ g (by omega) (by omega) (by omega) (by omega), jV_cong hs hc hr k _ _ _ _ _ g (by omega) (by omega) (by omega) (by omega)]
/-- a state's number -/
def jn4 (L : Int) (S : Nat → Int) : Nat → Int
  | 0 => L + 1
  | k + 1 => 4 * jn4 L S k + S k
def jn9 (v : Int) (W : Nat → Int) : Nat → Int
  | 0 => v
  | k + 1 => 9 * jn9 v W k + (if 8 < W k then 8 else W k)
theorem jn4_r {L : Int} {S : Nat → Int} (L0 : -1 ≤ L ∧ L ≤ 3) (h : ∀ c : Nat, c < 4 → 0 ≤ S c ∧ S c ≤ 3) : ∀ k : Nat, k ≤ 4 → 0 ≤ jn4 L S k ∧ jn4 L S k < 5 * 4 ^ k
  | 0, _ => by show 0 ≤ L + 1 ∧ L + 1 < 5 * 1; omega
  | k + 1, hk => by
    have a := jn4_r L0 h k (by omega)
    have b := h k (by omega)
    show 0 ≤ 4 * jn4 L S k + S k ∧ 4 * jn4 L S k + S k < 5 * 4 ^ (k + 1)
    rw [Int.pow_succ]; omega
theorem jn9_r {v V : Int} {W : Nat → Int} (v0 : 0 ≤ v ∧ v < V) (h : ∀ c : Nat, c < 4 → 0 ≤ W c) : ∀ k : Nat, k ≤ 4 → 0 ≤ jn9 v W k ∧ jn9 v W k < V * 9 ^ k
  | 0, _ => by show 0 ≤ v ∧ v < V * 1; omega
  | k + 1, hk => by
    have a := jn9_r v0 h k (by omega)
    have b := h k (by omega)
    show 0 ≤ 9 * jn9 v W k + (if 8 < W k then 8 else W k) ∧ 9 * jn9 v W k + (if 8 < W k then 8 else W k) < V * 9 ^ (k + 1)
    have e : V * 9 ^ (k + 1) = V * 9 ^ k * 9 := by rw [Int.pow_succ, Int.mul_assoc]
    rw [e]; split <;> omega
theorem jn9_inj {v v' : Int} {W W' : Nat → Int} (h : ∀ c : Nat, c < 4 → 0 ≤ W c ∧ 0 ≤ W' c) : ∀ k : Nat, k ≤ 4 → jn9 v W k = jn9 v' W' k → v = v' ∧ ∀ c : Nat, c < k → (if 8 < W c then 8 else W c) = (if 8 < W' c then 8 else W' c)
  | 0, _, e => ⟨e, fun c hc => absurd hc (by omega)⟩
  | k + 1, hk, e => by
    have b := h k (by omega)
    have e : 9 * jn9 v W k + (if 8 < W k then 8 else W k) = 9 * jn9 v' W' k + (if 8 < W' k then 8 else W' k) := e
    have r1 : 0 ≤ (if 8 < W k then 8 else W k) ∧ (if 8 < W k then 8 else W k) ≤ 8 := by split <;> omega
    have r2 : 0 ≤ (if 8 < W' k then 8 else W' k) ∧ (if 8 < W' k then 8 else W' k) ≤ 8 := by split <;> omega
    have q : jn9 v W k = jn9 v' W' k ∧ (if 8 < W k then 8 else W k) = (if 8 < W' k then 8 else W' k) := by omega
    obtain ⟨g1, g2⟩ := jn9_inj h k (by omega) q.1
    refine ⟨g1, fun c hc => ?_⟩
    by_cases ec : c = k
    · rw [ec]; exact q.2
    · exact g2 c (by omega)
theorem jn4_inj {L L' : Int} {S S' : Nat → Int} (h : ∀ c : Nat, c < 4 → (0 ≤ S c ∧ S c ≤ 3) ∧ (0 ≤ S' c ∧ S' c ≤ 3)) : ∀ k : Nat, k ≤ 4 → jn4 L S k = jn4 L' S' k → L = L' ∧ ∀ c : Nat, c < k → S c = S' c
  | 0, _, e => ⟨by have e : L + 1 = L' + 1 := e; omega, fun c hc => absurd hc (by omega)⟩
  | k + 1, hk, e => by
    have b := h k (by omega)
    have e : 4 * jn4 L S k + S k = 4 * jn4 L' S' k + S' k := e
    have q : jn4 L S k = jn4 L' S' k ∧ S k = S' k := by omega
    obtain ⟨g1, g2⟩ := jn4_inj h k (by omega) q.1
    refine ⟨g1, fun c hc => ?_⟩
    by_cases ec : c = k
    · rw [ec]; exact q.2
    · exact g2 c (by omega)
def jNum (nb : Int) (L : Int) (S W : Nat → Int) : Int := jn9 (jn4 L S nb.toNat) W nb.toNat
theorem jNum_inj {nb L L' : Int} {S S' W W' : Nat → Int} (hn : nb ≤ 4) (hS : ∀ c : Nat, c < 4 → (0 ≤ S c ∧ S c ≤ 3) ∧ (0 ≤ S' c ∧ S' c ≤ 3)) (hW : ∀ c : Nat, c < 4 → 0 ≤ W c ∧ 0 ≤ W' c) (e : jNum nb L S W = jNum nb L' S' W') : L = L' ∧ ∀ c : Nat, (c : Int) < nb → S c = S' c ∧ (if 8 < W c then 8 else W c) = (if 8 < W' c then 8 else W' c) := by
  obtain ⟨a1, a2⟩ := jn9_inj hW nb.toNat (by omega) e
  obtain ⟨b1, b2⟩ := jn4_inj hS nb.toNat (by omega) a1
  exact ⟨b1, fun c hc => ⟨b2 c (by omega), a2 c (by omega)⟩⟩
/-- OVERS left, as the reference has them -/
def jqLr (nb : Int) (ov : Nat → Int) (W : Nat → Int) : Nat → Int := fun c => if (c : Int) < nb then jmx (ov c - W c) else 0
theorem jqLr_clip {nb : Int} {ov W W' : Nat → Int} {c : Nat} (h : ov c ≤ 8 ∨ (W c ≤ 8 ∧ W' c ≤ 8)) (e : (c : Int) < nb → (if 8 < W c then 8 else W c) = (if 8 < W' c then 8 else W' c)) : jqLr nb ov W c = jqLr nb ov W' c := by
  unfold jqLr
  by_cases q : (c : Int) < nb
  · rw [if_pos q, if_pos q]
    have e := e q
    unfold jmx
    split at e <;> split at e <;> (repeat' split) <;> omega
  · rw [if_neg q, if_neg q]
/-- kept means: what stands under a state's number is that state's -/
def jMem (f : Int → (Nat → Int) → (Nat → Int) → Int → Int → Int × Int) (nb now : Int) (ov : Nat → Int) (stp num ots mea who : Nat → Int32) : Prop := ∀ k : Nat, k < 65536 → (stp k).toInt = now → ∀ (L : Int) (S W : Nat → Int) (d w : Int), (-1 ≤ L ∧ L ≤ 3) → (∀ c : Nat, c < 4 → (0 ≤ S c ∧ S c ≤ 3) ∧ 0 ≤ W c ∧ (ov c ≤ 8 ∨ W c ≤ 8)) → 0 ≤ d → (0 ≤ w ∧ w ≤ 8) → (num k).toInt = jNum nb L S W → (ots k).toInt = 16 * d + w → ((who k).toInt, (mea k).toInt) = f L S (jqLr nb ov W) d w
def jFc (f : Int → (Nat → Int) → (Nat → Int) → Int → Int → Int × Int) : Prop := ∀ (L : Int) (S S' lf lf' : Nat → Int) (d w : Int), (∀ c : Nat, c < 4 → 0 ≤ lf c ∧ lf c = lf' c ∧ (0 < lf c → S c = S' c)) → f L S lf d w = f L S' lf' d w
theorem jMem.nil {f : Int → (Nat → Int) → (Nat → Int) → Int → Int → Int × Int} {nb now : Int} {ov : Nat → Int} {stp num ots mea who : Nat → Int32} (h : ∀ k : Nat, k < 65536 → (stp k).toInt ≠ now) : jMem f nb now ov stp num ots mea who := fun k hk e => absurd e (h k hk)
theorem jqLr_0 {nb : Int} {ov W : Nat → Int} (c : Nat) : 0 ≤ jqLr nb ov W c := by
  unfold jqLr jmx; split
  · split <;> omega
  · omega
theorem jMem.set {f : Int → (Nat → Int) → (Nat → Int) → Int → Int → Int × Int} {nb now : Int} {ov : Nat → Int} {stp num ots mea who stp' num' ots' mea' who' : Nat → Int32} {k : Nat} {t a o x v : Int32} {L d w : Int} {S W : Nat → Int} (h : jMem f nb now ov stp num ots mea who) (fc : jFc f) (hn : nb ≤ 4)
    (e1 : stp' = jupd stp k t) (e2 : num' = jupd num k a) (e3 : ots' = jupd ots k o) (e4 : mea' = jupd mea k v) (e5 : who' = jupd who k x) (ha : a.toInt = jNum nb L S W) (ho : o.toInt = 16 * d + w) (hv : (x.toInt, v.toInt) = f L S (jqLr nb ov W) d w)
    (hL : -1 ≤ L ∧ L ≤ 3) (hS : ∀ c : Nat, c < 4 → (0 ≤ S c ∧ S c ≤ 3) ∧ 0 ≤ W c ∧ (ov c ≤ 8 ∨ W c ≤ 8)) (d0 : 0 ≤ d) (w0 : 0 ≤ w ∧ w ≤ 8) : jMem f nb now ov stp' num' ots' mea' who' := by
  subst e1 e2 e3 e4 e5
  intro j hj ej L' S' W' d' w' hL' hS' d0' w0' en eo
  by_cases c : j = k
  · subst c
    rw [jqup_eq] at en eo ⊢
    rw [jqup_eq]
    obtain ⟨g1, g2⟩ := jNum_inj (L := L) (L' := L') (S := S) (S' := S') (W := W) (W' := W') hn (fun c hc => ⟨(hS c hc).1, (hS' c hc).1⟩) (fun c hc => ⟨(hS c hc).2.1, (hS' c hc).2.1⟩) (by rw [← ha, ← en])
    have ed : d = d' := by omega
    have ew : w = w' := by omega
    subst g1 ed ew
    rw [hv]
    refine fc L S S' _ _ d w (fun c hc => ⟨jqLr_0 c, ?_, fun q => ?_⟩)
    · have a1 := (hS c hc).2.2; have a2 := (hS' c hc).2.2
      exact jqLr_clip (by omega) (fun q => (g2 c q).2)
    · by_cases q9 : (c : Int) < nb
      · exact (g2 c q9).1
      · unfold jqLr at q; rw [if_neg q9] at q; omega
  · rw [jqup_ne c] at ej en eo ⊢
    rw [jqup_ne c]
    exact h j hj ej L' S' W' d' w' hL' hS' d0' w0' en eo
theorem jV_fc {ch : Nat → Int → Int → Int → Int → Int → Int} {rn : Nat → Int → Int → Int} {so : Nat → Int} {n R T : Int} : jFc (fun L S lf d w => jV ch rn so n R (T - d).toNat L lf S d w) := by
  intro L S S' lf lf' d w h
  refine jV_qv (ex := true) (fun q => absurd q (by decide)) _ _ _ _ _ _ _ _ (fun c hc => ?_)
  obtain ⟨a1, a2, a3⟩ := h c hc
  refine ⟨a1, by omega, fun _ q => a3 q, fun q _ => a3 q, by rw [a2], fun _ _ => a2⟩
theorem jqAd.le {n n' : Int} {K K' : Nat → Int32} {lv d : Int} {ex : Bool} {A : Int32} {r : Int} (h : jqAd n n' K K' lv d ex A r) : n ≤ n' := by
  rcases h.2 with ⟨_, _, e⟩ | ⟨_, _, _, _, ⟨e, _⟩ | ⟨_, _, _, e | ⟨e, _⟩⟩⟩ <;> omega
theorem jNm_hi {x : Int} (h : 0 ≤ jNm x) : 98 ≤ x := by unfold jNm at h; (repeat' split at h) <;> omega
/-! the reference's states, and what it keeps of them -/
def jrS (σ : Nat → Nat → Int32) : Nat → Int := fun c => (σ 68 c).toInt
def jrW (σ : Nat → Nat → Int32) : Nat → Int := fun c => (σ 69 c).toInt
def jrOv (σ : Nat → Nat → Int32) : Nat → Int := fun c => (if Int32.ofNat c = σ 55 30 then (0 : Int32) else if Int32.ofNat c = σ 55 31 then σ 56 (32 + c) + 1 else σ 56 (32 + c)).toInt
noncomputable def jrCh (σ : Nat → Nat → Int32) : Nat → Int → Int → Int → Int → Int → Int := fun b s t l o w => (jChv (σ 56) (σ 60) (jGr (fun k : Nat => σ 64 (80 * 1 + k)) (σ 65 1).toInt) (σ 55 9).toInt (b : Int) s t (jwd l) (jwd o) (jwd w)).toInt
noncomputable def jrRn (σ : Nat → Nat → Int32) : Nat → Int → Int → Int := fun b s t => (jRnv (σ 56) (σ 61) (σ 55 9).toInt (b : Int) s t).toInt
noncomputable def jrF (σ : Nat → Nat → Int32) (L : Int) (S lf : Nat → Int) (d w : Int) : Int × Int := jV (jrCh σ) (jrRn σ) (fun y => (σ 62 y).toInt) (σ 55 10).toInt (σ 55 13).toInt ((σ 55 12).toInt - d).toNat L lf S d w
def jrLf (σ : Nat → Nat → Int32) : Nat → Int := jqLr (σ 55 6).toInt (jrOv σ) (jrW σ)
noncomputable def jrV (σ : Nat → Nat → Int32) : Int × Int := jrF σ (σ 55 27).toInt (jrS σ) (jrLf σ) (σ 55 26).toInt (σ 55 25).toInt
def jrP (σ : Nat → Nat → Int32) : Prop := (∀ c : Nat, c < 4 → (0 ≤ jrS σ c ∧ jrS σ c ≤ 3) ∧ (0 ≤ jrW σ c ∧ jrW σ c ≤ (σ 55 26).toInt) ∧ (-1000 ≤ jrOv σ c ∧ jrOv σ c ≤ 1000) ∧ (jrOv σ c ≤ 8 ∨ (σ 55 12).toInt ≤ 8)) ∧ (σ 55 6).toInt ≤ 4 ∧ (σ 55 12).toInt ≤ 12 ∧ (σ 55 10).toInt ≤ 8
def jrM (σ : Nat → Nat → Int32) : Prop := jMem (jrF σ) (σ 55 6).toInt (σ 55 42).toInt (jrOv σ) (σ 78) (σ 74) (σ 75) (σ 76) (σ 77)
def jrEq (σ σ' : Nat → Nat → Int32) : Prop := (σ' 56 = σ 56 ∧ σ' 60 = σ 60 ∧ σ' 61 = σ 61 ∧ σ' 62 = σ 62 ∧ σ' 64 = σ 64 ∧ σ' 65 = σ 65) ∧ σ' 55 6 = σ 55 6 ∧ σ' 55 9 = σ 55 9 ∧ σ' 55 10 = σ 55 10 ∧ σ' 55 12 = σ 55 12 ∧ σ' 55 13 = σ 55 13 ∧ σ' 55 30 = σ 55 30 ∧ σ' 55 31 = σ 55 31 ∧ σ' 55 42 = σ 55 42
theorem jrEq.f {σ σ' : Nat → Nat → Int32} (h : jrEq σ σ') : jrF σ' = jrF σ := by
  obtain ⟨⟨a1, a2, a3, a4, a5, a6⟩, b1, b2, b3, b4, b5, b6, b7, b8⟩ := h
  have c1 : jrCh σ' = jrCh σ := by unfold jrCh; rw [a1, a2, a5, a6, b2]
  have c2 : jrRn σ' = jrRn σ := by unfold jrRn; rw [a1, a3, b2]
  funext L S lf d w
  unfold jrF; rw [c1, c2, a4, b3, b4, b5]
theorem jrEq.ov {σ σ' : Nat → Nat → Int32} (h : jrEq σ σ') : jrOv σ' = jrOv σ := by
  obtain ⟨⟨a1, _⟩, _, _, _, _, _, b6, b7, _⟩ := h
  funext c; unfold jrOv; rw [a1, b6, b7]
/-- rows 68, 69 and the place stay: the state stays -/
theorem jrEq.v {σ σ' : Nat → Nat → Int32} (h : jrEq σ σ') (e68 : σ' 68 = σ 68) (e69 : σ' 69 = σ 69) (e25 : σ' 55 25 = σ 55 25) (e26 : σ' 55 26 = σ 55 26) (e27 : σ' 55 27 = σ 55 27) : jrV σ' = jrV σ ∧ (jrP σ → jrP σ') := by
  have o := h.ov
  have s : jrS σ' = jrS σ := by funext c; unfold jrS; rw [e68]
  have w : jrW σ' = jrW σ := by funext c; unfold jrW; rw [e69]
  have b := h.2
  refine ⟨?_, fun q => ?_⟩
  · unfold jrV jrLf; rw [h.f, o, s, w, e25, e26, e27, b.1]
  · unfold jrP at *; rw [s, w, o, e26, b.1, b.2.2.1, b.2.2.2.1]; exact q
theorem jrEq.m {σ σ' : Nat → Nat → Int32} (h : jrEq σ σ') (a : σ' 78 = σ 78) (b : σ' 74 = σ 74) (c : σ' 75 = σ 75) (d : σ' 76 = σ 76) (e : σ' 77 = σ 77) (q : jrM σ) : jrM σ' := by
  unfold jrM at *; rw [h.f, h.ov, h.2.1, h.2.2.2.2.2.2.2.2, a, b, c, d, e]; exact q
theorem jrEq.rfl {σ : Nat → Nat → Int32} : jrEq σ σ := ⟨⟨Eq.refl _, Eq.refl _, Eq.refl _, Eq.refl _, Eq.refl _, Eq.refl _⟩, Eq.refl _, Eq.refl _, Eq.refl _, Eq.refl _, Eq.refl _, Eq.refl _, Eq.refl _, Eq.refl _⟩
theorem jSn_r {σ : Nat → Nat → Int32} {b k : Nat} {v : Int} (h : (k = b ∧ (((σ 68 k).toInt < 3 ∧ v = (σ 68 k).toInt + 1) ∨ (3 ≤ (σ 68 k).toInt ∧ v = 3))) ∨ (k ≠ b ∧ ((0 < (σ 68 k).toInt ∧ v = (σ 68 k).toInt - 1) ∨ ((σ 68 k).toInt ≤ 0 ∧ v = 0)))) : v = jSn (jrS σ) b k := by
  unfold jSn jrS
  rcases h with ⟨e, h⟩ | ⟨e, h⟩
  · rw [if_pos e, ← e]; show v = if (σ 68 k).toInt < 3 then (σ 68 k).toInt + 1 else 3; split <;> omega
  · rw [if_neg e]; show v = if 0 < (σ 68 k).toInt then (σ 68 k).toInt - 1 else 0; split <;> omega
/-- OVERS left, and who may bowl -/
theorem jrP.left {σ : Nat → Nat → Int32} (h : jrP σ) {b : Int32} (b0 : 0 ≤ b.toInt) (b1 : b.toInt ≤ 3) (d12 : (σ 55 26).toInt ≤ 12) : (jleft σ b).toInt = jrOv σ b.toInt.toNat - jrW σ b.toInt.toNat := by
  obtain ⟨_, h2, h3, _⟩ := h.1 b.toInt.toNat (by omega)
  have eb : Int32.ofNat b.toInt.toNat = b := (jofn4_eq (by omega) (by omega)).symm
  have e32 : (32 + b).toInt = 32 + b.toInt := jadd (x := 32 + b) rfl (show (32 : Int32).toInt = 32 by decide) rfl (by omega) (by omega)
  have em : σ 56 (32 + b).toNatClampNeg = σ 56 (32 + b.toInt.toNat) := by rw [jnc e32]; congr 1; omega
  unfold jrOv at h3 ⊢
  unfold jleft
  rw [eb] at h3 ⊢
  rw [em, jnc (rfl : b.toInt = b.toInt)]
  have w : (σ 69 b.toInt.toNat).toInt = jrW σ b.toInt.toNat := rfl
  exact jsub rfl rfl w (by omega) (by omega)
theorem jrP.mb {σ : Nat → Nat → Int32} (h : jrP σ) {b : Int32} (b0 : 0 ≤ b.toInt) (b1 : b.toInt ≤ 3) (d12 : (σ 55 26).toInt ≤ 12) : jmb σ b = 1 ↔ (b.toInt ≠ (σ 55 27).toInt ∧ 0 < jrOv σ b.toInt.toNat - jrW σ b.toInt.toNat) := by
  have el := h.left b0 b1 d12
  unfold jmb
  constructor
  · intro q
    by_cases c1 : b = σ 55 27
    · rw [if_pos c1] at q; exact absurd q (by decide)
    rw [if_neg c1] at q
    by_cases c2 : jleft σ b ≤ 0
    · rw [if_pos c2] at q; exact absurd q (by decide)
    have c3 := jnle c2 el (show (0 : Int32).toInt = 0 by decide)
    exact ⟨fun e => c1 (Int32.toInt_inj.mp e), by omega⟩
  · rintro ⟨q1, q2⟩
    have c1 : ¬ b = σ 55 27 := fun e => q1 (by rw [e])
    have c2 : ¬ jleft σ b ≤ 0 := fun e => by
      have := jle e el (show (0 : Int32).toInt = 0 by decide)
      omega
    rw [if_neg c1, if_neg c2]
theorem jrP.my {σ : Nat → Nat → Int32} (h : jrP σ) {b : Int32} (b0 : 0 ≤ b.toInt) (b1 : b.toInt < (σ 55 6).toInt) (d12 : (σ 55 26).toInt ≤ 12) : jmb σ b = 1 ↔ jMy4 (σ 55 27).toInt (jrLf σ) b.toInt.toNat = true := by
  rw [h.mb b0 (by have := h.2.1; omega) d12]
  unfold jMy4 jrLf jqLr
  rw [decide_eq_true_iff, if_pos (by omega)]
  unfold jmx
  constructor
  · rintro ⟨q1, q2⟩; exact ⟨by omega, by split <;> omega⟩
  · rintro ⟨q1, q2⟩; exact ⟨by omega, by split at q2 <;> omega⟩
/-- nobody bowls on -/
theorem jrP.fin {σ : Nat → Nat → Int32} (h : jrP σ) (d12 : (σ 55 26).toInt ≤ 12) (e : ¬ ((σ 55 25).toInt < (σ 55 10).toInt ∧ (σ 55 26).toInt < (σ 55 12).toInt ∧ ∃ b : Int32, 0 ≤ b.toInt ∧ b.toInt < (σ 55 6).toInt ∧ jmb σ b = 1)) : jrV σ = (-1, 0) := by
  unfold jrV jrF
  by_cases c1 : (σ 55 26).toInt < (σ 55 12).toInt
  · obtain ⟨k, hk⟩ : ∃ k : Nat, ((σ 55 12).toInt - (σ 55 26).toInt).toNat = k + 1 := ⟨((σ 55 12).toInt - (σ 55 26).toInt).toNat - 1, by omega⟩
    rw [hk, jV]
    by_cases c2 : (σ 55 10).toInt ≤ (σ 55 25).toInt
    · rw [if_pos c2]
    · rw [if_neg c2]
      refine jPk_none (fun c hc => ?_)
      cases q : jMy4 (σ 55 27).toInt (jrLf σ) c
      · rfl
      · exfalso
        by_cases hn : (c : Int) < (σ 55 6).toInt
        · have k := jofn4 hc
          refine e ⟨by omega, c1, Int32.ofNat c, by omega, by omega, ?_⟩
          rw [h.my (by omega) (by omega) d12, k.2.2]; exact q
        · have q := of_decide_eq_true q
          have q2 := q.2
          unfold jrLf jqLr at q2
          rw [if_neg hn] at q2; omega
  · rw [show ((σ 55 12).toInt - (σ 55 26).toInt).toNat = 0 by omega]; rfl
/-- an over bowled -/
theorem jrP.goes {σ σ' : Nat → Nat → Int32} {b : Int32} (q : jrEq σ σ') (h : jrP σ) (mb : jmb σ b = 1) (b0 : 0 ≤ b.toInt) (b1 : b.toInt < (σ 55 6).toInt) (e69 : σ' 69 = jupd (σ 69) b.toNatClampNeg (σ 69 b.toNatClampNeg + 1)) (e68 : ∀ c : Nat, (c : Int) < (σ 55 6).toInt → jrS σ' c = jSn (jrS σ) b.toInt.toNat c) (f68 : ∀ k : Nat, (σ 55 6).toInt ≤ k → σ' 68 k = σ 68 k) (eL : (σ' 55 27).toInt = b.toInt) (eD : (σ' 55 26).toInt = (σ 55 26).toInt + 1) (d12 : (σ 55 26).toInt < 12) (w : Int) (eO : (σ' 55 25).toInt = w) :
    jrP σ' ∧ jrV σ' = jrF σ b.toInt (jSn (jrS σ) b.toInt.toNat) (jLn (jrLf σ) b.toInt.toNat) ((σ 55 26).toInt + 1) w := by
  have ov := q.ov
  have n6 : σ' 55 6 = σ 55 6 := q.2.1
  have n12 : σ' 55 12 = σ 55 12 := q.2.2.2.2.1
  have n10 : σ' 55 10 = σ 55 10 := q.2.2.2.1
  have mm := (h.mb b0 (by have := h.2.1; omega) (by omega)).mp mb
  have h4 := h.2.1
  have hb := h.1 b.toInt.toNat (by omega)
  have w1 : ∀ c : Nat, c < 4 → jrW σ' c = if c = b.toInt.toNat then jrW σ c + 1 else jrW σ c := fun c hc => by
    unfold jrW; rw [e69, jnc (rfl : b.toInt = b.toInt)]
    by_cases e : c = b.toInt.toNat
    · rw [if_pos e, e, jqup_eq]
      have z := hb.2.1
      unfold jrW at z
      exact jadd (x := σ 69 b.toInt.toNat + 1) rfl rfl (show (1 : Int32).toInt = 1 by decide) (by omega) (by omega)
    · rw [if_neg e, jqup_ne e]
  refine ⟨⟨fun c hc => ?_, by rw [n6]; exact h4, by rw [n12]; exact h.2.2.1, by rw [n10]; exact h.2.2.2⟩, ?_⟩
  · obtain ⟨a1, a2, a3, a4⟩ := h.1 c hc
    rw [w1 c hc, ov, n12, eD]
    refine ⟨?_, by split <;> omega, a3, a4⟩
    by_cases e : (c : Int) < (σ 55 6).toInt
    · rw [e68 c e]; unfold jSn; split
      · split <;> omega
      · split <;> omega
    · have z := f68 c (by omega)
      unfold jrS at a1 ⊢; rw [z]; exact a1
  · unfold jrV
    rw [q.f, eL, eD, eO]
    refine jV_fc _ _ _ _ _ _ _ (fun c hc => ?_)
    have a := h.1 c hc
    have lf' : jrLf σ' c = jLn (jrLf σ) b.toInt.toNat c := by
      unfold jrLf jLn jqLr
      rw [ov, w1 c hc, n6]
      by_cases e : c = b.toInt.toNat
      · rw [if_pos e, if_pos e, ← e, if_pos (by omega), if_pos (by omega)]
        rw [← e] at mm
        unfold jmx; split <;> split <;> omega
      · rw [if_neg e, if_neg e]
    refine ⟨jqLr_0 c, lf', fun z => ?_⟩
    by_cases e : (c : Int) < (σ 55 6).toInt
    · exact e68 c e
    · unfold jrLf jqLr at z; rw [if_neg (by rw [n6]; exact e)] at z; omega
noncomputable def jrNx (σ : Nat → Nat → Int32) : Nat → Int → Int × Int := fun c e => jrF σ (c : Int) (jSn (jrS σ) c) (jLn (jrLf σ) c) ((σ 55 26).toInt + 1) ((σ 55 25).toInt + e)
noncomputable def jrG (σ : Nat → Nat → Int32) : Nat → Int := fun c => jMo (σ 55 13).toInt (jrRn σ c (σ 62 (σ 55 25).toInt.toNat).toInt (jrS σ c)) (jrCh σ c (σ 62 (σ 55 25).toInt.toNat).toInt (jrS σ c) (jrLf σ c) (σ 55 26).toInt (σ 55 25).toInt) (jrNx σ c 1).2 (jrNx σ c 0).2
theorem jrEq.nx {σ σ' : Nat → Nat → Int32} (h : jrEq σ σ') (e68 : σ' 68 = σ 68) (e69 : σ' 69 = σ 69) (e25 : σ' 55 25 = σ 55 25) (e26 : σ' 55 26 = σ 55 26) : jrNx σ' = jrNx σ := by
  have o := h.ov
  have s : jrS σ' = jrS σ := by funext c; unfold jrS; rw [e68]
  have w : jrW σ' = jrW σ := by funext c; unfold jrW; rw [e69]
  unfold jrNx jrLf; rw [h.f, o, s, w, e25, e26, h.2.1]
theorem jrEq.g {σ σ' : Nat → Nat → Int32} (h : jrEq σ σ') (e68 : σ' 68 = σ 68) (e69 : σ' 69 = σ 69) (e25 : σ' 55 25 = σ 55 25) (e26 : σ' 55 26 = σ 55 26) : jrG σ' = jrG σ := by
  have o := h.ov
  have s : jrS σ' = jrS σ := by funext c; unfold jrS; rw [e68]
  have w : jrW σ' = jrW σ := by funext c; unfold jrW; rw [e69]
  have n := h.nx e68 e69 e25 e26
  obtain ⟨⟨a1, a2, a3, a4, a5, a6⟩, b1, b2, b3, b4, b5, b6, b7, b8⟩ := h
  unfold jrG jrLf jrCh jrRn; rw [n, o, s, w, a1, a2, a3, a4, a5, a6, b1, b2, b5, e25, e26]
theorem jrV_on {σ : Nat → Nat → Int32} (h1 : (σ 55 25).toInt < (σ 55 10).toInt) (h2 : (σ 55 26).toInt < (σ 55 12).toInt) : jrV σ = jPk (jMy4 (σ 55 27).toInt (jrLf σ)) (jrG σ) 4 := by
  obtain ⟨k, hk⟩ : ∃ k : Nat, ((σ 55 12).toInt - (σ 55 26).toInt).toNat = k + 1 := ⟨((σ 55 12).toInt - (σ 55 26).toInt).toNat - 1, by omega⟩
  unfold jrV jrF
  rw [hk, jV, if_neg (by omega)]
  refine jPk_eq (fun _ _ => rfl) (fun c _ _ => ?_)
  unfold jrG jrNx jrF
  rw [show ((σ 55 12).toInt - ((σ 55 26).toInt + 1)).toNat = k by omega, show (σ 55 25).toInt + 0 = (σ 55 25).toInt by omega]
theorem jrCh_of {n : Nat → Nat → Int32} {c : Nat} {B X : Int} {r bw sw : Int32} (h : r = jClp (jB0 (n 56 (4 * B + X).toNat) (n 56 (36 + 4 * (n 55 9).toInt + X).toNat) (jFr (n 60 B.toNat) (n 68 B.toNat)) + jGr (fun k : Nat => n 64 (80 * 1 + k)) (n 65 1).toInt (jN8 (n 55 26) (n 55 25) sw bw (n 68 B.toNat) (jleft n bw) 0 0))) (pr : jrP n) (hB : B = (c : Int)) (hb : bw.toInt = (c : Int)) (hc : (c : Int) < (n 55 6).toInt) (hs : sw.toInt = X) (s0 : 0 ≤ X ∧ X ≤ 3) (d : 0 ≤ (n 55 26).toInt ∧ (n 55 26).toInt ≤ 12) (w : 0 ≤ (n 55 25).toInt ∧ (n 55 25).toInt ≤ 8) (mb : jmb n bw = 1) : r.toInt = jrCh n c X (jrS n c) (jrLf n c) (n 55 26).toInt (n 55 25).toInt := by
  subst hB
  have c4 := pr.2.1
  have hl := pr.left (b := bw) (by omega) (by omega) d.2
  have hm := (pr.mb (b := bw) (by omega) (by omega) d.2).mp mb
  have ec : bw.toInt.toNat = c := by omega
  rw [ec] at hl hm
  have a := pr.1 c (by omega)
  have e1 : jrLf n c = (jleft n bw).toInt := by
    unfold jrLf jqLr; rw [if_pos hc, hl]; unfold jmx; split <;> omega
  have e2 : jleft n bw = jwd (jrLf n c) := jwd_of e1.symm (by omega) (by omega)
  have t : n 68 ((c : Int)).toNat = jwd (jrS n c) := jwd_of rfl a.1.1 (by omega)
  have e3 : sw = jwd X := jwd_of hs s0.1 (by omega)
  have e4 : bw = jwd (c : Int) := jwd_of hb (by omega) (by omega)
  have e5 : n 55 26 = jwd (n 55 26).toInt := jwd_of rfl d.1 (by omega)
  have e6 : n 55 25 = jwd (n 55 25).toInt := jwd_of rfl w.1 (by omega)
  unfold jrCh jChv
  rw [← e2, ← e3, ← e4, ← t, ← e5, ← e6, h]
theorem jrRn_of {n : Nat → Nat → Int32} {c : Nat} {B X : Int} {r : Int32} (h : r = jRn (n 61 B.toNat) (n 56 (16 + 4 * B + X).toNat) (n 56 (52 + 4 * (n 55 9).toInt + X).toNat) (n 68 B.toNat)) (pr : jrP n) (hB : B = (c : Int)) (hc : c < 4) : r.toInt = jrRn n c X (jrS n c) := by
  subst hB
  have a := pr.1 c hc
  have t : n 68 ((c : Int)).toNat = jwd (jrS n c) := jwd_of rfl a.1.1 (by omega)
  unfold jrRn jRnv
  rw [← t, h]
theorem jMo_of2 {R r C p q x z : Int} (hx : x = jMx C p q) (hz : z = 1000 * r + ((-R + 1000) * x) / 1000) : z = jMo R r C p q := by
  unfold jMo; rw [← hx, show 1000 - R = -R + 1000 by omega, hz]; omega
/-- what stood in the store -/
theorem jrM.hit {σ : Nat → Nat → Int32} {k : Nat} (pr : jrP σ) (mm : jrM σ) (hk : k < 65536) (hs : σ 78 k = σ 55 42) (hn : (σ 74 k).toInt = jNum (σ 55 6).toInt (σ 55 27).toInt (jrS σ) (jrW σ)) (ho : (σ 75 k).toInt = 16 * (σ 55 26).toInt + (σ 55 25).toInt) (hL : -1 ≤ (σ 55 27).toInt ∧ (σ 55 27).toInt ≤ 3) (d : 0 ≤ (σ 55 26).toInt ∧ (σ 55 26).toInt ≤ (σ 55 12).toInt) (w : 0 ≤ (σ 55 25).toInt ∧ (σ 55 25).toInt ≤ 8) : ((σ 77 k).toInt, (σ 76 k).toInt) = jrV σ :=
  mm k hk (congrArg Int32.toInt hs) _ _ _ _ _ hL (fun c hc => by
    obtain ⟨a1, a2, a3, a4⟩ := pr.1 c hc
    exact ⟨a1, a2.1, by omega⟩) d.1 w hn ho
theorem jrM.store {σ σ1 σ' : Nat → Nat → Int32} {k : Nat} {a o x v t : Int32} (q : jrEq σ σ') (pr : jrP σ) (mm : jrM σ1) (q1 : jrEq σ σ1) (e1 : σ' 78 = jupd (σ1 78) k t) (e2 : σ' 74 = jupd (σ1 74) k a) (e3 : σ' 75 = jupd (σ1 75) k o) (e4 : σ' 76 = jupd (σ1 76) k v) (e5 : σ' 77 = jupd (σ1 77) k x) (ha : a.toInt = jNum (σ 55 6).toInt (σ 55 27).toInt (jrS σ) (jrW σ)) (ho : o.toInt = 16 * (σ 55 26).toInt + (σ 55 25).toInt) (hv : (x.toInt, v.toInt) = jrV σ) (hL : -1 ≤ (σ 55 27).toInt ∧ (σ 55 27).toInt ≤ 3) (d : 0 ≤ (σ 55 26).toInt ∧ (σ 55 26).toInt ≤ (σ 55 12).toInt) (w : 0 ≤ (σ 55 25).toInt ∧ (σ 55 25).toInt ≤ 8) : jrM σ' := by
  unfold jrM at mm ⊢
  rw [q.f, q.ov, q.2.1, q.2.2.2.2.2.2.2.2]
  rw [q1.f, q1.ov, q1.2.1, q1.2.2.2.2.2.2.2.2] at mm
  exact mm.set jV_fc pr.2.1 e1 e2 e3 e4 e5 ha ho hv hL (fun c hc => by
    obtain ⟨a1, a2, a3, a4⟩ := pr.1 c hc
    exact ⟨a1, a2.1, by omega⟩) d.1 w
/-- the least so far -/
def jrB (σ : Nat → Nat → Int32) (b best least : Int) : Prop := jPk (jMy4 (σ 55 27).toInt (jrLf σ)) (jrG σ) b.toNat = (best, if best < 0 then 0 else least) ∧ (best < 0 → least = 2000000000)
theorem jrB.first {σ : Nat → Nat → Int32} {b best least : Int} (h : b ≤ 0) (hb : best = -1) (hl : least = 2000000000) : jrB σ b best least := by
  subst hb hl; unfold jrB; rw [show b.toNat = 0 by omega]; exact ⟨by rw [if_pos (by decide)]; rfl, fun _ => rfl⟩
theorem jrB.skip {σ : Nat → Nat → Int32} {b b' best least : Int} (h : jrB σ b best least) (b0 : 0 ≤ b) (hm : jMy4 (σ 55 27).toInt (jrLf σ) b.toNat ≠ true) (hb : b' = b + 1) : jrB σ b' best least := by
  subst hb; refine ⟨?_, h.2⟩
  rw [show (b + 1).toNat = b.toNat + 1 by omega, jPk, if_neg (fun z => hm z.1)]; exact h.1
theorem jrB.keep {σ : Nat → Nat → Int32} {b b' best least v : Int} (h : jrB σ b best least) (b0 : 0 ≤ b) (hv : v = jrG σ b.toNat) (hl : least ≤ v) (hh : v < 2000000000) (hb : b' = b + 1) : jrB σ b' best least := by
  subst hb; refine ⟨?_, h.2⟩
  have c : ¬ best < 0 := fun z => by have := h.2 z; omega
  rw [show (b + 1).toNat = b.toNat + 1 by omega, jPk, if_neg ?_]
  · exact h.1
  · rintro ⟨_, z⟩
    rw [h.1] at z
    have z : best < 0 ∨ jrG σ b.toNat < (if best < 0 then 0 else least) := z
    rw [if_neg c] at z; omega
theorem jrB.take {σ : Nat → Nat → Int32} {b b' best least v best' least' : Int} (h : jrB σ b best least) (b0 : 0 ≤ b) (hm : jMy4 (σ 55 27).toInt (jrLf σ) b.toNat = true) (hv : v = jrG σ b.toNat) (hl : v < least) (e1 : best' = b) (e2 : least' = v) (hb : b' = b + 1) : jrB σ b' best' least' := by
  subst hb e1 e2; refine ⟨?_, fun z => absurd z (by omega)⟩
  rw [show (best' + 1).toNat = best'.toNat + 1 by omega, jPk, if_pos ?_]
  · rw [if_neg (by omega), hv]; exact Prod.ext (by show ((best'.toNat : Nat) : Int) = best'; omega) rfl
  · refine ⟨hm, ?_⟩
    rw [h.1]
    show best < 0 ∨ jrG σ best'.toNat < (if best < 0 then 0 else least)
    by_cases c : best < 0
    · exact Or.inl c
    · rw [if_neg c]; right; omega
theorem jPk_ext {m : Nat → Bool} {v : Nat → Int} {n : Nat} : ∀ k : Nat, (∀ c : Nat, n ≤ c → c < n + k → m c = false) → jPk m v (n + k) = jPk m v n
  | 0, _ => rfl
  | k + 1, h => by
    show jPk m v (n + k + 1) = _
    rw [jPk, if_neg (fun z => by have := h (n + k) (by omega) (by omega); rw [this] at z; exact absurd z.1 (by decide))]
    exact jPk_ext k (fun c h1 h2 => h c h1 (by omega))
theorem jrB.fin {σ : Nat → Nat → Int32} {b best least : Int} (h : jrB σ b best least) (b0 : 0 ≤ b) (hb : b = (σ 55 6).toInt) (h4 : b ≤ 4) (h1 : (σ 55 25).toInt < (σ 55 10).toInt) (h2 : (σ 55 26).toInt < (σ 55 12).toInt) (c : 0 ≤ best) : (best, least) = jrV σ := by
  rw [jrV_on h1 h2]
  have e : jPk (jMy4 (σ 55 27).toInt (jrLf σ)) (jrG σ) 4 = jPk (jMy4 (σ 55 27).toInt (jrLf σ)) (jrG σ) b.toNat := by
    have z := jPk_ext (m := jMy4 (σ 55 27).toInt (jrLf σ)) (v := jrG σ) (n := b.toNat) (4 - b.toNat) (fun x q1 _ => by
      unfold jMy4 jrLf jqLr
      rw [if_neg (by omega)]; exact decide_eq_false (fun w => by have := w.2; omega))
    rw [show b.toNat + (4 - b.toNat) = 4 by omega] at z; exact z
  rw [e, h.1, if_neg (by omega)]
def jrW0 (σ : Nat → Nat → Int32) : Prop := ∀ c : Nat, c < 4 → 0 ≤ jrW σ c
theorem jrP.w0 {σ : Nat → Nat → Int32} (h : jrP σ) : jrW0 σ := fun c hc => (h.1 c hc).2.1.1
theorem jn9_step {N : Int} {W : Nat → Int} {k k' : Nat} {v x y u : Int32} (q : v.toInt = jn9 N W k) (N0 : 0 ≤ N ∧ N < 1280) (hk : k ≤ 3) (W0 : ∀ c : Nat, c < 4 → 0 ≤ W c) (e1 : x = 9 * v) (e2 : u = x + y) (hy : (y.toInt = 8 ∧ 8 < W k) ∨ (y.toInt = W k ∧ W k ≤ 8)) (ek : k' = k + 1) : u.toInt = jn9 N W k' := by
  subst ek
  have r := jn9_r N0 W0 k (by omega)
  have b : jn9 N W k < 933120 := by
    have h9 : k = 0 ∨ k = 1 ∨ k = 2 ∨ k = 3 := by omega
    rcases h9 with rfl | rfl | rfl | rfl
    · have := r.2; simp at this; omega
    · have := r.2; simp at this; omega
    · have := r.2; simp at this; omega
    · have := r.2; simp at this; omega
  have w := W0 k (by omega)
  have ex : x.toInt = 9 * jn9 N W k := jmul e1 (show (9 : Int32).toInt = 9 by decide) q (by omega) (by omega)
  have eu : u.toInt = 9 * jn9 N W k + y.toInt := jadd e2 ex rfl (by omega) (by omega)
  show u.toInt = 9 * jn9 N W k + (if 8 < W k then 8 else W k)
  rw [eu]; split <;> omega
theorem jn4_b {L : Int} {S : Nat → Int} (L0 : -1 ≤ L ∧ L ≤ 3) (h : ∀ c : Nat, c < 4 → 0 ≤ S c ∧ S c ≤ 3) {k : Nat} (hk : k ≤ 4) : 0 ≤ jn4 L S k ∧ jn4 L S k < 1280 := by
  have r := jn4_r L0 h k hk
  have h9 : k = 0 ∨ k = 1 ∨ k = 2 ∨ k = 3 ∨ k = 4 := by omega
  rcases h9 with rfl | rfl | rfl | rfl | rfl <;> (have := r.2; simp at this; omega)
theorem jrEq.ch {σ σ' : Nat → Nat → Int32} (h : jrEq σ σ') (e68 : σ' 68 = σ 68) (e69 : σ' 69 = σ 69) (e25 : σ' 55 25 = σ 55 25) (e26 : σ' 55 26 = σ 55 26) : jrCh σ' = jrCh σ ∧ jrRn σ' = jrRn σ ∧ jrS σ' = jrS σ ∧ jrLf σ' = jrLf σ := by
  have o := h.ov
  have s : jrS σ' = jrS σ := by funext c; unfold jrS; rw [e68]
  have w : jrW σ' = jrW σ := by funext c; unfold jrW; rw [e69]
  obtain ⟨⟨a1, a2, a3, a4, a5, a6⟩, b1, b2, b3, b4, b5, b6, b7, b8⟩ := h
  refine ⟨by unfold jrCh; rw [a1, a2, a5, a6, b2], by unfold jrRn; rw [a1, a3, b2], s, by unfold jrLf; rw [o, w, b1]⟩
theorem jqll1 {p : Nat → Prop} (h0 : p 0) : ∀ c : Nat, c < 1 → p c := by
  intro c hc
  have h9 : c = 0 := by omega
  subst h9; exact h0
theorem jqll2 {p : Nat → Prop} (h0 : p 0) (h1 : p 1) : ∀ c : Nat, c < 2 → p c := by
  intro c hc
  have h9 : c = 0 ∨ c = 1 := by omega
  rcases h9 with rfl | rfl
  · exact h0
  · exact h1
theorem jqll3 {p : Nat → Prop} (h0 : p 0) (h1 : p 1) (h2 : p 2) : ∀ c : Nat, c < 3 → p c := by
  intro c hc
  have h9 : c = 0 ∨ c = 1 ∨ c = 2 := by omega
  rcases h9 with rfl | rfl | rfl
  · exact h0
  · exact h1
  · exact h2
theorem jqll4 {p : Nat → Prop} (h0 : p 0) (h1 : p 1) (h2 : p 2) (h3 : p 3) : ∀ c : Nat, c < 4 → p c := by
  intro c hc
  have h9 : c = 0 ∨ c = 1 ∨ c = 2 ∨ c = 3 := by omega
  rcases h9 with rfl | rfl | rfl | rfl
  · exact h0
  · exact h1
  · exact h2
  · exact h3
/-! seeking -/
def jNz (σ : Nat → Nat → Int32) : Prop := ∀ z : Nat, z < 9 → (σ 34 (3150 + z)).toInt = 0
theorem jNz.fr {σ σ' : Nat → Nat → Int32} (e : σ' 34 = σ 34) (h : jNz σ) : jNz σ' := fun z hz => by rw [e]; exact h z hz
theorem jNz.put {σ σ' : Nat → Nat → Int32} {k : Nat} {v : Int32} (h : jNz σ) (e : σ' = jup σ 34 k v) (hk : k < 3150) : jNz σ' := by
  intro z hz
  rw [e, jup_k (by omega)]; exact h z hz
theorem jNz.first {σ : Nat → Nat → Int32} (h : ∀ k : Nat, k < 3159 → σ 34 k = 0) : jNz σ := fun z hz => by rw [h _ (by omega)]; decide
theorem jDep.ch {σ : Nat → Nat → Int32} (d : jDep (jGb σ) (σ 22 1)) (h : ¬ (σ 22 1).toBitVec.getLsbD 5 = true) (b : Nat) (s t l l' o w : Int) : jChc σ b s t l o w = jChc σ b s t l' o w := by
  unfold jChc
  rw [d (jN6 (jwd l) (jwd (16 * (b : Int) + 4 * s + t)) (jwd o) (jwd w)) (jN6 (jwd l') (jwd (16 * (b : Int) + 4 * s + t)) (jwd o) (jwd w)) (fun k hk hb => ?_)]
  have n5 : k ≠ 5 := fun e => h (by rw [← e]; exact hb)
  have h9 : k = 0 ∨ k = 1 ∨ k = 2 ∨ k = 3 ∨ k = 4 ∨ k = 6 ∨ k = 7 := by omega
  rcases h9 with rfl | rfl | rfl | rfl | rfl | rfl | rfl <;> rfl
theorem jqRt.eq {ch : Nat → Int → Int → Int → Int → Int → Int} {rn : Nat → Int → Int → Int} {so : Nat → Int} {N R lv start fr lo : Int} {K V W V' W' : Nat → Int32} {j : Nat} (h : jqRt ch rn so N R lv start fr K V W j lo) (e : ∀ w : Nat, (w : Int) < N → W' (9 * (j : Int) + w).toNat = W (9 * (j : Int) + w).toNat ∧ V' (9 * (j : Int) + w).toNat = V (9 * (j : Int) + w).toNat) : jqRt ch rn so N R lv start fr K V' W' j lo := by
  intro T d no w h1 h2 h3
  rw [(e w h3).1, (e w h3).2]; exact h T d no w h1 h2 h3
def jqSp (σ v : Nat → Nat → Int32) (ln : Nat) (a : Int32) (w last : Int) : Prop := jFm a ∧ last < (σ 16 0).toInt ∧ (∀ k : Nat, k < 64 → 0 ≤ (σ 28 k).toInt ∧ (σ 28 k).toInt ≤ 41) ∧ ∀ j : Nat, (j : Int) < (v 31 8).toInt → jqRt (jChc σ) (jRnc σ) (fun y => (σ ln y).toInt) (σ 16 0).toInt (σ 16 2).toInt (v 31 11).toInt (v 31 10).toInt w (v 32) (σ 34) (σ 35) j (last + 1)
def jqSr (σ v : Nat → Nat → Int32) (ln : Nat) (w i : Int) : Prop := jqAr (jChc σ) (jRnc σ) (fun y => (σ ln y).toInt) (σ 16 0).toInt (σ 16 2).toInt (v 31 11).toInt (v 31 10).toInt w (v 31 8).toInt (v 32) (v 34) (v 35) i w ∧ ∀ k : Nat, (k : Int) < 9 * i → v 35 k = σ 35 k ∧ v 34 k = σ 34 k
theorem jqSr.first {σ v : Nat → Nat → Int32} {ln : Nat} {w i : Int} (e34 : v 34 = σ 34) (e35 : v 35 = σ 35) (hi : (v 31 8).toInt ≤ i) : jqSr σ v ln w i := ⟨fun j h1 h2 => absurd h1 (by omega), fun k _ => by rw [e34, e35]; exact ⟨rfl, rfl⟩⟩
theorem jChc_eq {σ v : Nat → Nat → Int32} (e27 : v 27 = σ 27) (e23 : v 23 = σ 23) (e22 : v 22 0 = σ 22 0) : jChc v = jChc σ := by unfold jChc jGb; rw [e27, e23, e22]
theorem jRnc_eq {σ v : Nat → Nat → Int32} (e28 : v 28 = σ 28) : jRnc v = jRnc σ := by unfold jRnc; rw [e28]
/-- what judging a node does, in short -/
def jqJr (v v' : Nat → Nat → Int32) (ln : Nat) (i fr last : Int) : Prop := jqPr v ln i.toNat fr last → (jqAr (jChc v) (jRnc v) (fun y => (v ln y).toInt) (v 16 0).toInt (v 16 2).toInt (v 31 11).toInt (v 31 10).toInt fr (v 31 8).toInt (v 32) (v' 34) (v' 35) i (jmx fr) ∧ ∀ k : Nat, (k : Int) < 9 * i → v' 35 k = v 35 k ∧ v' 34 k = v 34 k)
theorem jqSr.step {σ v v' : Nat → Nat → Int32} {ln : Nat} {a : Int32} {w last i i' : Int} (h : jqSp σ v ln a w last → jqSr σ v ln w i') (jr : jqJr v v' ln i w last) (e27 : v 27 = σ 27) (e28 : v 28 = σ 28) (e23 : v 23 = σ 23) (e22 : v 22 0 = σ 22 0) (eln : v ln = σ ln) (e160 : v 16 0 = σ 16 0) (e162 : v 16 2 = σ 16 2) (f8 : v' 31 8 = v 31 8) (f10 : v' 31 10 = v 31 10) (f11 : v' 31 11 = v 31 11) (f32 : v' 32 = v 32) (e9 : v 31 9 = a) (nz : jNz v) (dep : jDep (jGb σ) (σ 22 1)) (hx : (v 31 12).toInt ≠ 0 ↔ (σ 22 1).toBitVec.getLsbD 5 = true) (hi : i' = i + 1) (i0 : 0 ≤ i) (i9 : i < (v 31 8).toInt) (N8 : (σ 16 0).toInt ≤ 8) (w0 : 0 ≤ w) : jqSp σ v' ln a w last → jqSr σ v' ln w i := by
  intro sp
  subst hi
  have sp0 : jqSp σ v ln a w last := by unfold jqSp at sp ⊢; rw [f8, f10, f11, f32] at sp; exact sp
  obtain ⟨ar, fr⟩ := h sp0
  obtain ⟨s1, s2, s3, s4⟩ := sp0
  have ew : jmx w = w := by unfold jmx; split <;> omega
  have p : jqPr v ln i.toNat w last := by
    unfold jqPr
    rw [jChc_eq e27 e23 e22, jRnc_eq e28, eln, e160, e162, e28, ew]
    refine ⟨by rw [e9]; exact s1, s2, s3, fun q b s t l l' o w' => dep.ch (fun z => ?_) b s t l l' o w', nz, ?_, ?_⟩
    · have := of_decide_eq_false q; exact this (hx.mpr z)
    · rw [show ((i.toNat : Nat) : Int) + 1 = i + 1 by omega]; exact ar
    · refine (s4 i.toNat (by omega)).eq (fun z hz => ?_)
      have q := fr (9 * ((i.toNat : Nat) : Int) + z).toNat (by omega)
      exact q
  have r := jr p
  rw [jChc_eq e27 e23 e22, jRnc_eq e28, eln, e160, e162, ew] at r
  unfold jqSr
  rw [f8, f10, f11, f32]
  exact ⟨r.1, fun k hk => by rw [(r.2 k hk).1, (r.2 k hk).2]; exact fr k (by omega)⟩
/-- what is sought, at the root -/
theorem jqSr.top {σ v : Nat → Nat → Int32} {ln : Nat} {a : Int32} {w : Int} (h : jqSr σ v ln w 0) (kg : jKg v) (fm : jFm a) (e9 : v 31 9 = a) (dep : jDep (jGb σ) (σ 22 1)) (hx : (v 31 12).toInt ≠ 0 ↔ (σ 22 1).toBitVec.getLsbD 5 = true) (lv1 : 1 ≤ (v 31 11).toInt) (w0 : 0 ≤ w) : 1 ≤ (v 31 8).toInt ∧ ∀ z : Int, w ≤ z → z ≤ w + 1 → z < (σ 16 0).toInt → ((v 35 z.toNat).toInt, (v 34 z.toNat).toInt) = jV (jChc σ) (jRnc σ) (fun y => (σ ln y).toInt) (σ 16 0).toInt (σ 16 2).toInt (v 31 11).toInt.toNat (jla a) (jlf a) (jst a) (v 31 10).toInt z := by
  obtain ⟨n1, T, tf, no⟩ := (kg (by rw [e9]; exact fm)).2.2.2.1 lv1
  refine ⟨n1, fun z z0 z1 zN => ?_⟩
  have rt := (h.1 0 (by omega) (by omega)).1 T 0 no z.toNat (by omega) (by omega) (by omega)
  rw [show (9 * ((0 : Nat) : Int) + ((z.toNat : Nat) : Int)).toNat = z.toNat by omega, show ((v 31 11).toInt - 0).toNat = (v 31 11).toInt.toNat by omega, show (v 31 10).toInt + 0 = (v 31 10).toInt by omega, show ((z.toNat : Nat) : Int) = z by omega] at rt
  rw [rt, tf.1, e9]
  rw [e9] at tf
  rw [show (v 31 11).toInt = (((v 31 11).toInt.toNat : Nat) : Int) by omega] at tf
  have q := tf.qv (by omega)
  refine (jV_qv (ex := decide ((v 31 12).toInt ≠ 0)) (fun e b s t l l' o w' => dep.ch (fun z => ?_) b s t l l' o w') _ _ _ _ _ _ _ _ q).symm
  have := of_decide_eq_false e; exact this (hx.mpr z)
/-- what seeking leaves -/
def jqSk (σ v : Nat → Nat → Int32) (a : Int32) (o w : Int) : Prop := (jFm a → (∀ k : Nat, k < 64 → 0 ≤ (σ 28 k).toInt ∧ (σ 28 k).toInt ≤ 41) → jqSr σ v 17 w 0) ∧ ((v 31 12).toInt ≠ 0 ↔ (σ 22 1).toBitVec.getLsbD 5 = true)
theorem jqSk.of {σ v : Nat → Nat → Int32} {a : Int32} {o w : Int} (h : jFm a → (∀ k : Nat, k < 64 → 0 ≤ (σ 28 k).toInt ∧ (σ 28 k).toInt ≤ 41) → jqSr σ v 17 w 0) (hx : (v 31 12).toInt ≠ 0 ↔ (σ 22 1).toBitVec.getLsbD 5 = true) : jqSk σ v a o w := ⟨h, hx⟩
/-! ranges of runs, chances laid -/
def jPl (x : Int) : Prop := (16 ≤ x ∧ x ≤ 31) ∨ (52 ≤ x ∧ x ≤ 67)
def jR9 (x : Int32) : Prop := -9 ≤ x.toInt ∧ x.toInt ≤ 9
def jAlP (m p b a : Nat → Int32) (n : Int) : Prop := (∀ j : Nat, jPl j → jR9 (m j)) ∧ ∀ k : Nat, (k : Int) < n → jPl (p k).toInt → jR9 (b k) ∧ jR9 (a k)
theorem jAlP.put {m m' p b a : Nat → Int32} {n q : Int} {v : Int32} (h : jAlP m p b a n) (e : m' = jupd m q.toNat v) (h0 : 0 ≤ q) (hv : jPl q → jR9 v) : jAlP m' p b a n := by
  subst e
  refine ⟨fun j hj => ?_, h.2⟩
  unfold jupd
  by_cases e : j = q.toNat
  · rw [if_pos e]; exact hv (by rw [show q = (j : Int) by omega]; exact hj)
  · rw [if_neg e]; exact h.1 j hj
theorem jAlP.back {m m' p b a : Nat → Int32} {n d : Int} (h : jAlP m p b a n) (h0 : 0 ≤ d) (h1 : d < n) (hp : 0 ≤ (p d.toNat).toInt) (e : m' = jupd m (p d.toNat).toInt.toNat (b d.toNat)) : jAlP m' p b a n := h.put e hp (fun q => (h.2 d.toNat (by omega) q).1)
theorem jAlP.forth {m m' p b a : Nat → Int32} {n d : Int} (h : jAlP m p b a n) (h0 : 0 ≤ d) (h1 : d < n) (hp : 0 ≤ (p d.toNat).toInt) (e : m' = jupd m (p d.toNat).toInt.toNat (a d.toNat)) : jAlP m' p b a n := h.put e hp (fun q => (h.2 d.toNat (by omega) q).2)
theorem jAlP.chg {m m' p p' b b' a a' : Nat → Int32} {n n' d d' q : Int} {v r : Int32} (h : jAlP m p b a n) (c : jChg q v r m m' p p' b b' a a' d d' n n') (h0 : 0 ≤ q) (hd : 0 ≤ d ∧ d ≤ n) (hv : jPl q → jR9 v) : jAlP m' p' b' a' n' := by
  obtain ⟨er, c⟩ := c
  rcases c with ⟨_, e1, e2, e3, e4, e5, e6⟩ | ⟨_, e1, e2, p1, b1, a1, z, e3, e4, e5, e6, e7⟩
  · subst e1 e2 e3 e4 e6; exact h
  · refine ⟨(h.put e2 h0 hv).1, fun k hk k0 => ?_⟩
    rw [e5] at k0
    rw [e6, e7]
    unfold jupd at k0 ⊢
    by_cases e : k = (d' - 1).toNat
    · rw [if_pos e] at k0
      rw [if_pos e, if_pos e]
      have k1 : jPl q := by unfold jPl at k0 ⊢; omega
      refine ⟨?_, hv k1⟩
      have o := h.1 q.toNat (by rw [show ((q.toNat : Nat) : Int) = q by omega]; exact k1)
      rw [← er] at o; exact o
    · rw [if_neg e] at k0
      rw [if_neg e, if_neg e]
      rcases e4 with ⟨x1, x2, x3, x4, x5⟩ | ⟨x1, x2, x3, x4, x5⟩
      · subst x3 x4 x5; exact h.2 k (by omega) k0
      · have hk9 : k < 39 := by omega
        rw [x3 k hk9] at k0
        rw [x4 k hk9, x5 k hk9]; exact h.2 (k + 1) (by omega) k0
theorem jAlP.bowler {m m' p b a : Nat → Int32} {n B : Int} {v : Int32} (h : jAlP m p b a n) (e : m' = jupd m (32 + B).toNat v) (h0 : 0 ≤ B) (h4 : B ≤ 3) : jAlP m' p b a n := h.put e (by omega) (fun z => by unfold jPl at z; omega)
/-- chances and runs, out of what is told -/
noncomputable def jcCh (σ : Nat → Nat → Int32) (f : Int) : Nat → Int → Int → Int → Int → Int → Int := fun b s t l o w => (jChv (σ 3) (σ 4) (jGb σ) f (b : Int) s t (jwd l) (jwd o) (jwd w)).toInt
noncomputable def jcRn (σ : Nat → Nat → Int32) (f : Int) : Nat → Int → Int → Int := fun b s t => (jRnv (σ 3) (σ 5) f (b : Int) s t).toInt
def jcAl (σ : Nat → Nat → Int32) : Prop := (∀ j : Nat, jPl j → jR9 (σ 3 j)) ∧ ∀ b : Nat, b < 4 → 0 ≤ (σ 5 b).toInt ∧ (σ 5 b).toInt ≤ 20
theorem jRn_r {c e1 e2 t : Int32} (h1 : 0 ≤ c.toInt ∧ c.toInt ≤ 20) (h2 : jR9 e1) (h3 : jR9 e2) (h4 : 0 ≤ t.toInt ∧ t.toInt ≤ 3) : 0 ≤ (jRn c e1 e2 t).toInt ∧ (jRn c e1 e2 t).toInt ≤ 41 := by
  unfold jR9 at h2 h3
  have a1 : (c + e1).toInt = c.toInt + e1.toInt := jadd (x := c + e1) rfl rfl rfl (by omega) (by omega)
  have a2 : (c + e1 + e2).toInt = c.toInt + e1.toInt + e2.toInt := jadd (x := c + e1 + e2) rfl a1 rfl (by omega) (by omega)
  have a3 : (c + e1 + e2 + t).toInt = c.toInt + e1.toInt + e2.toInt + t.toInt := jadd (x := c + e1 + e2 + t) rfl a2 rfl (by omega) (by omega)
  unfold jRn
  by_cases q : (c + e1 + e2 + t).toInt < 0
  · rw [if_pos q]; exact ⟨by decide, by decide⟩
  · rw [if_neg q, a3]; rw [a3] at q; omega
theorem jLd.r41 {σ v : Nat → Nat → Int32} {f : Int} (h : jLd (v 27) (v 28) (σ 3) (σ 4) (σ 5) f 64) (f0 : 0 ≤ f) (f3 : f ≤ 3) (al : jcAl σ) : ∀ k : Nat, k < 64 → 0 ≤ (v 28 k).toInt ∧ (v 28 k).toInt ≤ 41 := by
  intro k hk
  rw [(h k (by omega)).2]
  unfold jRuI
  refine jRn_r (al.2 _ (by omega)) (al.1 _ (Or.inl (by omega))) (al.1 _ (Or.inr (by omega))) ?_
  rw [jwd_t (by omega) (by omega)]; omega
theorem jLd.ch {σ v : Nat → Nat → Int32} {f : Int} (h : jLd (v 27) (v 28) (σ 3) (σ 4) (σ 5) f 64) (g : jGb v = jGb σ) (b : Nat) (s t l o w : Int) (hb : b < 4) (hs : 0 ≤ s ∧ s ≤ 3) (ht : 0 ≤ t ∧ t ≤ 3) : jChc v b s t l o w = jcCh σ f b s t l o w := by
  have a := (h.at (b := (b : Int)) (s := s) (k := t) (i := (16 * (b : Int) + 4 * s + t).toNat) (by omega) hs ht (by omega)).1
  unfold jChc jcCh jChv
  rw [show (16 * (b : Int) + 4 * s + t) % 64 = 16 * (b : Int) + 4 * s + t by omega, a, g, jN6_8 (s := jwd s) (b := jwd (b : Int)) (t := jwd t) (by rw [jwd_t (by omega) (by omega), jwd_t (by omega) (by omega), jwd_t (by omega) (by omega), jwd_t (by omega) (by omega)]) (by rw [jwd_t (by omega) (by omega)]; omega) (by rw [jwd_t (by omega) (by omega)]; omega) (by rw [jwd_t (by omega) (by omega)]; omega)]
theorem jLd.rn {σ v : Nat → Nat → Int32} {f : Int} (h : jLd (v 27) (v 28) (σ 3) (σ 4) (σ 5) f 64) (b : Nat) (s t : Int) (hb : b < 4) (hs : 0 ≤ s ∧ s ≤ 3) (ht : 0 ≤ t ∧ t ≤ 3) : jRnc v b s t = jcRn σ f b s t := by
  have a := (h.at (b := (b : Int)) (s := s) (k := t) (i := (16 * (b : Int) + 4 * s + t).toNat) (by omega) hs ht (by omega)).2
  unfold jRnc jcRn jRnv
  rw [show (16 * (b : Int) + 4 * s + t) % 64 = 16 * (b : Int) + 4 * s + t by omega, a]
/-- the best, of what is told -/
noncomputable def jcF (σ : Nat → Nat → Int32) (f : Int) (L : Int) (lf st : Nat → Int) (o w : Int) : Int × Int := jV (jcCh σ f) (jcRn σ f) (fun y => (σ 17 y).toInt) (σ 16 0).toInt (σ 16 2).toInt ((σ 16 1).toInt - o).toNat L lf st o w
theorem jLd.v {σ v : Nat → Nat → Int32} {f : Int} (h : jLd (v 27) (v 28) (σ 3) (σ 4) (σ 5) f 64) (g : jGb v = jGb σ) (e17 : v 17 = σ 17) (e160 : v 16 0 = σ 16 0) (e162 : v 16 2 = σ 16 2) (s3 : ∀ z : Nat, (z : Int) < (σ 16 0).toInt → 0 ≤ (σ 17 z).toInt ∧ (σ 17 z).toInt ≤ 3) {k : Nat} {L o w : Int} {lf st : Nat → Int} (hf : ∀ c : Nat, c < 4 → (0 ≤ lf c ∧ lf c ≤ 15) ∧ (0 ≤ st c ∧ st c ≤ 3)) (o0 : 0 ≤ o) (w0 : 0 ≤ w) (hk : (k : Int) = (σ 16 1).toInt - o) : jV (jChc v) (jRnc v) (fun y => (v 17 y).toInt) (v 16 0).toInt (v 16 2).toInt k L lf st o w = jcF σ f L lf st o w := by
  unfold jcF
  rw [e17, e160, e162, show ((σ 16 1).toInt - o).toNat = k by omega]
  exact jV_cong (w0 := 0) (O := o + (k : Int)) (B := 4) (fun z _ z1 => ⟨rfl, s3 z z1⟩) (fun b s t l o w hb _ hs ht _ _ _ => h.ch g b s t l o w hb hs ht) (fun b s t hb _ hs ht => h.rn b s t hb hs ht) k L lf st o w (fun c hc => ⟨(hf c hc).1, (hf c hc).2, fun z => absurd z (by omega)⟩) o0 (by omega) w0 w0
/-- laid, sought: what stands at the root -/
theorem jqBo {σ v u : Nat → Nat → Int32} {a : Int32} {f o w : Int} (ld : jLd (v 27) (v 28) (σ 3) (σ 4) (σ 5) f 64) (sk : jqSk v u a o w) (kg : jKg u) (bl : jBl σ) (fm : jFm a) (al : jcAl σ) (f0 : 0 ≤ f) (f3 : f ≤ 3) (e23 : v 23 = σ 23) (e220 : v 22 0 = σ 22 0) (e221 : v 22 1 = σ 22 1) (e17 : v 17 = σ 17) (e160 : v 16 0 = σ 16 0) (e162 : v 16 2 = σ 16 2) (s3 : ∀ z : Nat, z < 8 → 0 ≤ (σ 17 z).toInt ∧ (σ 17 z).toInt ≤ 3) (N8 : (σ 16 0).toInt ≤ 8) (u9 : (u 31 9).toInt = a.toInt) (u10 : (u 31 10).toInt = o) (u11 : (u 31 11).toInt = (σ 16 1).toInt - o) (o1 : 1 ≤ (σ 16 1).toInt - o) (o0 : 0 ≤ o) (w0 : 0 ≤ w) : 1 ≤ (u 31 8).toInt ∧ ∀ z : Int, w ≤ z → z ≤ w + 1 → z < (σ 16 0).toInt → ((u 35 z.toNat).toInt, (u 34 z.toNat).toInt) = jcF σ f (jla a) (jlf a) (jst a) o z := by
  have g : jGb v = jGb σ := by unfold jGb; rw [e23, e220]
  have hr := jLd.r41 ld f0 f3 al
  have t := (sk.1 fm hr).top kg fm (Int32.toInt_inj.mp u9) (by rw [g, e221]; exact bl.1) sk.2 (by omega) w0
  refine ⟨t.1, fun z z0 z1 zN => ?_⟩
  have t2 := t.2 z z0 z1 (by rw [e160]; exact zN)
  rw [u10] at t2
  rw [jLd.v ld g e17 e160 e162 (fun y hy => s3 y (by omega)) (fun c hc => ⟨jlf_r a c hc, jst_r a c hc⟩) o0 (by omega) (by omega)] at t2
  exact t2
/-- what the book tells of an attack -/
def jbL (f : Nat → Int32) (n : Int) : Int := if n ≤ 0 then -1 else (f (n - 1).toNat).toInt
def jbS (L : Int) : Nat → Int := fun c => if (c : Int) = L then 1 else 0
def jbLf (t f : Nat → Int32) (B n : Int) : Nat → Int := fun c => if (c : Int) < B then jmx ((t (32 + c)).toInt - (jcn f (Int32.ofNat c) n.toNat : Int)) else 0
def jqbN (f : Nat → Int32) (n : Int) : Prop := ∀ k : Nat, (k : Int) + 1 < n → f k ≠ f (k + 1)
theorem jAk.lf {f t : Nat → Int32} {B n : Int} {r : Int32} (h : jAk f t B n r) : ∀ c : Nat, c < 4 → jlf r c = jbLf t f B n c := by
  intro c hc
  have k := jofn4 hc
  have q := h.1 (Int32.ofNat c) (by omega) (by omega)
  unfold jlf jbLf
  rw [q]
  unfold jOx
  rw [k.2.2]
  by_cases e : (c : Int) < B
  · rw [if_pos e, if_pos e, show (32 + (c : Int)).toNat = 32 + c by omega]
  · rw [if_neg e, if_neg e]; unfold jmx; split <;> omega
theorem jAk.la {f t : Nat → Int32} {B n : Int} {r : Int32} (h : jAk f t B n r) : jla r = jbL f n := by
  unfold jla jbL; rw [h.2]; split <;> omega
theorem jFm.st {A : Int32} (h : jFm A) : ∀ c : Nat, c < 4 → jst A c = jbS (jla A) c := h
/-- the attack by the book -/
theorem jcF_bk {σ : Nat → Nat → Int32} {f o w : Int} {t g : Nat → Int32} {B n : Int} {r : Int32} (h : jAk g t B n r) (fm : jFm r) : jcF σ f (jla r) (jlf r) (jst r) o w = jcF σ f (jbL g n) (jbLf t g B n) (jbS (jbL g n)) o w := by
  unfold jcF
  rw [h.la]
  refine jV_qv (ex := true) (fun q => absurd q (by decide)) _ _ _ _ _ _ _ _ (fun c hc => ?_)
  have e1 := h.lf c hc
  have e2 : jst r c = jbS (jbL g n) c := by rw [fm.st c hc, h.la]
  have p := jlf_r r c hc
  exact ⟨p.1, by omega, fun _ _ => e2, fun _ _ => e2, by rw [e1], fun _ _ => e1⟩
theorem jcF_end {σ : Nat → Nat → Int32} {f o w : Int} {L : Int} {lf st : Nat → Int} (h : ¬ (w < (σ 16 0).toInt ∧ o < (σ 16 1).toInt ∧ ∃ c : Nat, c < 4 ∧ (c : Int) ≠ L ∧ 0 < lf c)) : jcF σ f L lf st o w = (-1, 0) := by
  unfold jcF
  by_cases c1 : o < (σ 16 1).toInt
  · obtain ⟨k, hk⟩ : ∃ k : Nat, ((σ 16 1).toInt - o).toNat = k + 1 := ⟨((σ 16 1).toInt - o).toNat - 1, by omega⟩
    rw [hk, jV]
    by_cases c2 : (σ 16 0).toInt ≤ w
    · rw [if_pos c2]
    · rw [if_neg c2]
      refine jPk_none (fun c hc => ?_)
      unfold jMy4
      exact decide_eq_false (fun z => h ⟨by omega, c1, c, hc, z.1, z.2⟩)
  · rw [show ((σ 16 1).toInt - o).toNat = 0 by omega]; rfl
/-- never twice running: STEPS are 1 for who bowled last, 0 for all others -/
theorem jAg.fm {A r : Int32} {b : Nat} (h : jFm A) (g : jAg A b r) (hb : (b : Int) ≠ jla A) : jFm r := by
  intro c hc
  have e := (g.2 c hc).2
  rw [e, g.1, h c hc]
  by_cases q : c = b
  · subst q; rw [if_pos rfl, if_neg hb, if_pos (by decide), if_pos rfl]; rfl
  · rw [if_neg q, if_neg (show ¬ (c : Int) = (b : Int) by omega)]
    by_cases z : (c : Int) = jla A
    · rw [if_pos z, if_pos (by decide)]; rfl
    · rw [if_neg z, if_neg (by decide)]
/-! the reference's state behind its book -/
theorem jbS_step {v v' : Nat → Nat → Int32} {f : Nat → Int32} {n n' N nb : Int} {b : Int32} {B : Int} (h : jqbN f N → ∀ c : Nat, (c : Int) < nb → jrS v c = jbS (jbL f n) c) (hb : b = f n.toNat) (s68 : ∀ c : Nat, (c : Int) < nb → jrS v' c = jSn (jrS v) B.toNat c) (eB : b.toInt = B) (b0 : 0 ≤ B) (n0 : 0 ≤ n) (nN : n < N) (hn : n' = n + 1) : jqbN f N → ∀ c : Nat, (c : Int) < nb → jrS v' c = jbS (jbL f n') c := by
  intro nt c hc
  subst hn
  have e : jbL f (n + 1) = B := by unfold jbL; rw [if_neg (by omega), show n + 1 - 1 = n by omega, ← hb, eB]
  have ne : jbL f n ≠ B := by
    unfold jbL
    by_cases z : n ≤ 0
    · rw [if_pos z]; omega
    · rw [if_neg z]
      intro q
      have t := nt (n - 1).toNat (by omega)
      rw [show (n - 1).toNat + 1 = n.toNat by omega, ← hb] at t
      exact t (Int32.toInt_inj.mp (by rw [q, eB]))
  have a := h nt c hc
  rw [s68 c hc, e]
  unfold jSn
  by_cases q : c = B.toNat
  · have a2 := h nt B.toNat (by omega)
    have z0 : jbS (jbL f n) B.toNat = 0 := by unfold jbS; rw [if_neg (by omega)]
    have z1 : jbS B c = 1 := by unfold jbS; rw [if_pos (by omega)]
    rw [if_pos q, a2, z0, z1]; decide
  · rw [if_neg q, a]; unfold jbS
    rw [if_neg (show ¬ (c : Int) = B by omega)]
    by_cases z : (c : Int) = jbL f n
    · rw [if_pos z, if_pos (by decide)]; rfl
    · rw [if_neg z, if_neg (by decide)]
theorem jbS_first {v : Nat → Nat → Int32} {f : Nat → Int32} {n nb : Int} {P : Prop} (h : jZr (v 68) 4) (hn : n ≤ 0) (h4 : nb ≤ 4) : P → ∀ c : Nat, (c : Int) < nb → jrS v c = jbS (jbL f n) c := by
  intro _ c hc
  unfold jrS jbS jbL
  rw [h c (by omega), if_pos hn, if_neg (by omega)]; decide
theorem jrP.bk {σ : Nat → Nat → Int32} {f : Nat → Int32} {n : Int} (rb : jRb f (σ 69) n (σ 55 27).toInt) (hd : (σ 55 26).toInt = n) (n0 : 0 ≤ n) (n12 : n ≤ 12) (w : (σ 55 30).toInt = -1) (o : (σ 55 31).toInt = -1) (ok : jOk (σ 56)) (w68 : ∀ k : Nat, k < 4 → 0 ≤ (σ 68 k).toInt ∧ (σ 68 k).toInt ≤ 3) (h4 : (σ 55 6).toInt ≤ 4) (h12 : (σ 55 12).toInt ≤ 12) (h8 : (σ 55 10).toInt ≤ 8) : jrP σ ∧ ∀ c : Nat, c < 4 → jrLf σ c = jbLf (σ 56) f (σ 55 6).toInt n c := by
  have ov : ∀ c : Nat, c < 4 → jrOv σ c = (σ 56 (32 + c)).toInt := fun c hc => by
    have k := jofn4 hc
    unfold jrOv
    rw [if_neg (fun q => by rw [q] at k; omega), if_neg (fun q => by rw [q] at k; omega)]
  have ww : ∀ c : Nat, c < 4 → jrW σ c = (jcn f (Int32.ofNat c) n.toNat : Int) := fun c hc => by
    have k := jofn4 hc
    have z := rb.1 (Int32.ofNat c) (by omega) (by omega)
    rw [k.2.2] at z; exact z
  refine ⟨⟨fun c hc => ?_, h4, h12, h8⟩, fun c hc => ?_⟩
  · have a := ok c hc
    have l := jcn_le f (Int32.ofNat c) n.toNat
    rw [ov c hc, ww c hc]
    exact ⟨w68 c hc, by omega, by omega, Or.inl a.2⟩
  · unfold jrLf jqLr jbLf
    rw [ov c hc, ww c hc]
theorem jrV_bk {σ : Nat → Nat → Int32} {f : Nat → Int32} {n c : Int} (lf : ∀ c : Nat, c < 4 → jrLf σ c = jbLf (σ 56) f (σ 55 6).toInt n c) (hs : ∀ c : Nat, (c : Int) < (σ 55 6).toInt → jrS σ c = jbS (jbL f n) c) (hl : (σ 55 27).toInt = jbL f n) (hd : (σ 55 26).toInt = n) (hc : (σ 55 25).toInt = c) : jrV σ = jrF σ (jbL f n) (jbS (jbL f n)) (jbLf (σ 56) f (σ 55 6).toInt n) n c := by
  unfold jrV
  rw [hl, hd, hc]
  refine jV_fc _ _ _ _ _ _ _ (fun x hx => ⟨jqLr_0 x, lf x hx, fun z => ?_⟩)
  by_cases e : (x : Int) < (σ 55 6).toInt
  · exact hs x e
  · unfold jrLf jqLr at z; rw [if_neg e] at z; omega
/-- stamps behind the one now -/
def jqSt (σ : Nat → Nat → Int32) : Prop := ∀ k : Nat, k < 65536 → (σ 78 k).toInt ≤ (σ 55 42).toInt
theorem jqSt.fr {σ σ' : Nat → Nat → Int32} (e1 : σ' 78 = σ 78) (e2 : σ' 55 42 = σ 55 42) (h : jqSt σ) : jqSt σ' := fun k hk => by rw [e1, e2]; exact h k hk
theorem jqSt.put {σ σ' : Nat → Nat → Int32} {k : Nat} {v : Int32} (h : jqSt σ) (e : σ' = jup σ 78 k v) (hv : v = σ 55 42) : jqSt σ' := by
  subst hv
  intro j hj
  rw [e]
  by_cases c : j = k
  · subst c; rw [jup_s, jup_n (by decide)]; exact Int.le_refl _
  · rw [jup_k c, jup_n (by decide)]; exact h j hj
theorem jqSt.on {σ σ' : Nat → Nat → Int32} (h : jqSt σ) (e : σ' 78 = σ 78) (hn : (σ' 55 42).toInt = (σ 55 42).toInt + 1) : jqSt σ' ∧ jrM σ' := by
  refine ⟨fun k hk => by rw [e]; have := h k hk; omega, jMem.nil (fun k hk => ?_)⟩
  rw [e]; have := h k hk; omega
theorem jqSt.first {σ : Nat → Nat → Int32} (h : ∀ k : Nat, σ 78 k = 0) (h2 : 0 ≤ (σ 55 42).toInt) : jqSt σ := fun k hk => by rw [h k]; exact h2
/-! the best by the book, both sides -/
def jqEq (σ σ' : Nat → Nat → Int32) : Prop := (σ' 56 = σ 56 ∧ σ' 60 = σ 60 ∧ σ' 61 = σ 61 ∧ σ' 62 = σ 62 ∧ σ' 64 = σ 64 ∧ σ' 65 = σ 65) ∧ σ' 55 6 = σ 55 6 ∧ σ' 55 9 = σ 55 9 ∧ σ' 55 10 = σ 55 10 ∧ σ' 55 12 = σ 55 12 ∧ σ' 55 13 = σ 55 13 ∧ σ' 55 30 = σ 55 30 ∧ σ' 55 31 = σ 55 31
theorem jqEq.f {σ σ' : Nat → Nat → Int32} (h : jqEq σ σ') : jrF σ' = jrF σ := by
  obtain ⟨⟨a1, a2, a3, a4, a5, a6⟩, b1, b2, b3, b4, b5, b6, b7⟩ := h
  have c1 : jrCh σ' = jrCh σ := by unfold jrCh; rw [a1, a2, a5, a6, b2]
  have c2 : jrRn σ' = jrRn σ := by unfold jrRn; rw [a1, a3, b2]
  funext L S lf d w
  unfold jrF; rw [c1, c2, a4, b3, b4, b5]
/-- behind the book, stamps forgotten -/
theorem jrBest {σ g u : Nat → Nat → Int32} {n c : Int} (q : jqEq σ u) (rb : jRb (σ 80) (g 69) n (g 55 27).toInt) (rs : ∀ c : Nat, (c : Int) < (σ 55 6).toInt → jrS g c = jbS (jbL (σ 80) n) c) (e68 : u 68 = g 68) (e69 : u 69 = g 69) (e25 : (u 55 25).toInt = c) (e26 : (u 55 26).toInt = n) (e27 : u 55 27 = g 55 27) (n0 : 0 ≤ n) (n12 : n ≤ 12) (w : (σ 55 30).toInt = -1) (o : (σ 55 31).toInt = -1) (ok : jOk (σ 56)) (w68 : ∀ k : Nat, k < 4 → 0 ≤ (u 68 k).toInt ∧ (u 68 k).toInt ≤ 3) (h4 : (σ 55 6).toInt ≤ 4) (h12 : (σ 55 12).toInt ≤ 12) (h8 : (σ 55 10).toInt ≤ 8) : jrP u ∧ jrV u = jrF σ (jbL (σ 80) n) (jbS (jbL (σ 80) n)) (jbLf (σ 56) (σ 80) (σ 55 6).toInt n) n c := by
  obtain ⟨⟨a1, a2, a3, a4, a5, a6⟩, b1, b2, b3, b4, b5, b6, b7⟩ := id q
  have p := jrP.bk (σ := u) (f := σ 80) (n := n) (by rw [e69, e27]; exact rb) e26 n0 n12 (by rw [b6]; exact w) (by rw [b7]; exact o) (by rw [a1]; exact ok) w68 (by rw [b1]; exact h4) (by rw [b4]; exact h12) (by rw [b3]; exact h8)
  refine ⟨p.1, ?_⟩
  have s : ∀ c : Nat, (c : Int) < (u 55 6).toInt → jrS u c = jbS (jbL (σ 80) n) c := fun c hc => by
    have z := rs c (by rw [← b1]; exact hc)
    unfold jrS at z ⊢; rw [e68]; exact z
  have z := jrV_bk p.2 s (by rw [e27, rb.2]; rfl) e26 e25
  rw [z, q.f, a1, b1]
noncomputable def jrBv (σ : Nat → Nat → Int32) : Int × Int := jrF σ (jbL (σ 80) (σ 55 47).toInt) (jbS (jbL (σ 80) (σ 55 47).toInt)) (jbLf (σ 56) (σ 80) (σ 55 6).toInt (σ 55 47).toInt) (σ 55 47).toInt (jcnt (σ 81) (σ 55 47).toInt.toNat : Int)
noncomputable def jcBv (σ : Nat → Nat → Int32) : Int × Int := jcF σ (σ 2 1).toInt (jbL (σ 48) (σ 47 0).toInt) (jbLf (σ 3) (σ 48) (σ 2 0).toInt (σ 47 0).toInt) (jbS (jbL (σ 48) (σ 47 0).toInt)) (σ 47 0).toInt (jcnt (σ 49) (σ 47 0).toInt.toNat : Int)
/-- an answer of best -/
def jqBe (r what d : Int) (v : Int × Int) : Prop := (¬ (0 ≤ what ∧ what ≤ 1) → r = -1) ∧ (0 ≤ what ∧ what ≤ 1 → (8 < d → r = -4) ∧ (d ≤ 8 → r = if what = 0 then v.2 else if v.1 < 0 then -2 else v.1))
theorem jqBe.det {r r' what d : Int} {v : Int × Int} (h : jqBe r what d v) (h' : jqBe r' what d v) : r = r' := by
  by_cases c : 0 ≤ what ∧ what ≤ 1
  · by_cases e : 8 < d
    · rw [(h.2 c).1 e, (h'.2 c).1 e]
    · rw [(h.2 c).2 (by omega), (h'.2 c).2 (by omega)]
  · rw [h.1 c, h'.1 c]
theorem jqBe.bad {r what d : Int} {v : Int × Int} (h : ¬ (0 ≤ what ∧ what ≤ 1)) (hr : r = -1) : jqBe r what d v := ⟨fun _ => hr, fun z => absurd z h⟩
theorem jqBe.big {r what d : Int} {v : Int × Int} (h : 0 ≤ what ∧ what ≤ 1) (hd : 8 < d) (hr : r = -4) : jqBe r what d v := ⟨fun z => absurd h z, fun _ => ⟨fun _ => hr, fun z => absurd z (by omega)⟩⟩
theorem jqBe.of {r what d : Int} {v : Int × Int} (h : 0 ≤ what ∧ what ≤ 1) (hd : d ≤ 8) (hr : (what = 0 ∧ r = v.2) ∨ (what ≠ 0 ∧ r = if v.1 < 0 then -2 else v.1)) : jqBe r what d v := by
  refine ⟨fun z => absurd h z, fun _ => ⟨fun z => absurd z (by omega), fun _ => ?_⟩⟩
  rcases hr with ⟨a, b⟩ | ⟨a, b⟩
  · rw [if_pos a, b]
  · rw [if_neg a, b]
theorem jFm_0 {A : Int32} (h : ∀ c : Nat, c < 4 → jst A c = 0) (hl : jla A = -1) : jFm A := fun c hc => by rw [h c hc, hl, if_neg (by omega)]
theorem jFm_on {x r : Int32} {t f : Nat → Int32} {B k N : Int} {b : Int32} {K : Int} (h : jFm x) (ak : jAk f t B k x) (g : jAg x K.toNat r) (eb : b = f k.toNat) (eK : b.toInt = K) (K0 : 0 ≤ K) (nt : jqbN f N) (k0 : 0 ≤ k) (kN : k < N) : jFm r := by
  refine jAg.fm h g ?_
  rw [ak.la]
  unfold jbL
  by_cases z : k ≤ 0
  · rw [if_pos z]; omega
  · rw [if_neg z]
    intro q
    have t := nt (k - 1).toNat (by omega)
    rw [show (k - 1).toNat + 1 = k.toNat by omega, ← eb] at t
    exact t (Int32.toInt_inj.mp (by rw [eK, ← q]; omega))
/-- ended, or not -/
theorem jcBv_end {σ : Nat → Nat → Int32} {a : Int32} {o w : Int} (ak : jAk (σ 48) (σ 3) (σ 2 0).toInt (σ 47 0).toInt a) (ho : o = (σ 47 0).toInt) (hw : w = (jcnt (σ 49) (σ 47 0).toInt.toNat : Int)) (e : ¬ (w < (σ 16 0).toInt ∧ o < (σ 16 1).toInt ∧ ∃ b : Int32, jMb a b)) : jcBv σ = (-1, 0) := by
  unfold jcBv
  refine jcF_end (fun ⟨h1, h2, c, hc, h3, h4⟩ => e ⟨by omega, by omega, Int32.ofNat c, ?_⟩)
  have k := jofn4 hc
  rw [← ak.la] at h3
  rw [← ak.lf c hc] at h4
  refine ⟨⟨by omega, by omega⟩, h4, ?_⟩
  unfold jla at h3; omega
theorem jcBv_on {σ : Nat → Nat → Int32} {a b : Int32} {o w : Int} (ak : jAk (σ 48) (σ 3) (σ 2 0).toInt (σ 47 0).toInt a) (ho : o = (σ 47 0).toInt) (hw : w = (jcnt (σ 49) (σ 47 0).toInt.toNat : Int)) (h1 : w < (σ 16 0).toInt) (h2 : o < (σ 16 1).toInt) (mb : jMb a b) : 0 ≤ (jcBv σ).1 := by
  unfold jcBv jcF
  obtain ⟨k, hk⟩ : ∃ k : Nat, ((σ 16 1).toInt - (σ 47 0).toInt).toNat = k + 1 := ⟨((σ 16 1).toInt - (σ 47 0).toInt).toNat - 1, by omega⟩
  rw [hk, jV, if_neg (by omega)]
  obtain ⟨⟨b0, b3⟩, m1, m2⟩ := mb
  have eb : b = Int32.ofNat b.toInt.toNat := jofn4_eq (by omega) (by omega)
  refine jPk_some (b := b.toInt.toNat) (by omega) ?_
  unfold jMy4
  refine decide_eq_true ⟨?_, ?_⟩
  · rw [← ak.la]; unfold jla; omega
  · rw [← ak.lf _ (by omega)]; unfold jlf; rw [← eb]; exact m1
/-- the same, on both sides -/
theorem jBv_same {σ : Nat → Nat → Int32} (hB : (σ 2 0).toInt = (σ 55 6).toInt) (h4 : (σ 55 6).toInt ≤ 4) (hf : (σ 2 1).toInt = (σ 55 9).toInt) (f0 : 0 ≤ (σ 55 9).toInt ∧ (σ 55 9).toInt ≤ 3) (hn : (σ 47 0).toInt = (σ 55 47).toInt) (n0 : 0 ≤ (σ 55 47).toInt) (n12 : (σ 55 47).toInt ≤ 12) (hN : (σ 16 0).toInt = (σ 55 10).toInt) (N8 : (σ 55 10).toInt ≤ 8) (hT : (σ 16 1).toInt = (σ 55 12).toInt) (T12 : (σ 55 12).toInt ≤ 12) (hR : (σ 16 2).toInt = (σ 55 13).toInt) (num : ∀ k : Nat, k < 68 → ((k : Int) < 4 * (σ 55 6).toInt ∨ 16 ≤ k) → σ 3 k = σ 56 k) (tc : ∀ k : Nat, (k : Int) < (σ 55 6).toInt → σ 4 k = σ 60 k ∧ σ 5 k = σ 61 k) (bl : ∀ nm : Nat → Int32, jGb σ nm = jGr (fun k : Nat => σ 64 (80 * 1 + k)) (σ 65 1).toInt nm) (so : jSo (σ 17) (σ 62) (σ 16 0).toInt) (s3 : ∀ z : Nat, z < 8 → 0 ≤ (σ 17 z).toInt ∧ (σ 17 z).toInt ≤ 3) (bk : jBk (σ 48) (σ 80) (σ 49) (σ 81) (σ 55 47).toInt) (ok : jOk (σ 56)) : jcBv σ = jrBv σ := by
  have L : jbL (σ 48) (σ 47 0).toInt = jbL (σ 80) (σ 55 47).toInt := by
    unfold jbL; rw [hn]
    by_cases z : (σ 55 47).toInt ≤ 0
    · rw [if_pos z, if_pos z]
    · rw [if_neg z, if_neg z, (bk ((σ 55 47).toInt - 1).toNat (by omega)).1]
  have W : (jcnt (σ 49) (σ 47 0).toInt.toNat : Int) = (jcnt (σ 81) (σ 55 47).toInt.toNat : Int) := by
    rw [hn, jcnt_cong _ (fun k hk => (bk k (by omega)).2)]
  have F : jbLf (σ 3) (σ 48) (σ 2 0).toInt (σ 47 0).toInt = jbLf (σ 56) (σ 80) (σ 55 6).toInt (σ 55 47).toInt := by
    funext c
    unfold jbLf
    rw [hB, hn]
    by_cases z : (c : Int) < (σ 55 6).toInt
    · rw [if_pos z, if_pos z, num (32 + c) (by omega) (Or.inr (by omega)), jcn_cong _ (fun k hk => (bk k (by omega)).1)]
    · rw [if_neg z, if_neg z]
  unfold jcBv jrBv
  rw [L, W, F, hn]
  unfold jcF jrF
  rw [hN, hR, hT]
  have lfr : ∀ c : Nat, c < 4 → 0 ≤ jbLf (σ 56) (σ 80) (σ 55 6).toInt (σ 55 47).toInt c ∧ jbLf (σ 56) (σ 80) (σ 55 6).toInt (σ 55 47).toInt c ≤ 15 := fun c hc => by
    have a := ok c hc
    unfold jbLf jmx
    split
    · split <;> omega
    · omega
  refine jV_cong (w0 := 0) (O := 100) (B := (σ 55 6).toInt) (fun z _ z1 => ?_) (fun b s t l o w hb hB' hs ht hl ho hw => ?_) (fun b s t hb hB' hs ht => ?_) _ _ _ _ _ _ (fun c hc => ⟨lfr c hc, ?_, fun z => ?_⟩) n0 (by omega) (by omega) (by omega)
  · have e := so z (by omega)
    refine ⟨by show (σ 17 z).toInt = (σ 62 z).toInt; rw [e], s3 z (by omega)⟩
  · unfold jcCh jrCh jChv
    rw [hf, num _ (by omega) (Or.inl (by omega)), num _ (by omega) (Or.inr (by omega)), (tc _ (by omega)).1, bl]
  · unfold jcRn jrRn jRnv
    rw [hf, num _ (by omega) (Or.inr (by omega)), num _ (by omega) (Or.inr (by omega)), (tc _ (by omega)).2]
  · unfold jbS; split <;> omega
  · unfold jbLf; rw [if_neg (by omega)]

theorem jcBv_of {σ v u : Nat → Nat → Int32} {a b : Int32} {o w : Int} (ld : jLd (v 27) (v 28) (σ 3) (σ 4) (σ 5) (σ 2 1).toInt 64) (sk : jqSk v u a o w) (kg : jKg u) (bl : jBl σ) (fm : jFm a) (al : jcAl σ) (f0 : 0 ≤ (σ 2 1).toInt) (f3 : (σ 2 1).toInt ≤ 3) (e23 : v 23 = σ 23) (e220 : v 22 0 = σ 22 0) (e221 : v 22 1 = σ 22 1) (e17 : v 17 = σ 17) (e160 : v 16 0 = σ 16 0) (e162 : v 16 2 = σ 16 2) (s3 : ∀ z : Nat, z < 8 → 0 ≤ (σ 17 z).toInt ∧ (σ 17 z).toInt ≤ 3) (N8 : (σ 16 0).toInt ≤ 8) (u9 : (u 31 9).toInt = a.toInt) (u10 : (u 31 10).toInt = o) (u11 : (u 31 11).toInt = (σ 16 1).toInt - o) (o1 : 1 ≤ (σ 16 1).toInt - o) (o0 : 0 ≤ o) (w0 : 0 ≤ w) (ak : jAk (σ 48) (σ 3) (σ 2 0).toInt (σ 47 0).toInt a) (ho : o = (σ 47 0).toInt) (hw : w = (jcnt (σ 49) (σ 47 0).toInt.toNat : Int)) (h1 : w < (σ 16 0).toInt) (h2 : o < (σ 16 1).toInt) (mb : jMb a b) : 1 ≤ (u 31 8).toInt ∧ ((u 35 w.toNat).toInt, (u 34 w.toNat).toInt) = jcBv σ ∧ 0 ≤ (jcBv σ).1 := by
  have t := jqBo ld sk kg bl fm al f0 f3 e23 e220 e221 e17 e160 e162 s3 N8 u9 u10 u11 o1 o0 w0
  refine ⟨t.1, ?_, jcBv_on ak ho hw h1 h2 mb⟩
  rw [t.2 w (by omega) (by omega) h1, jcF_bk ak fm]
  unfold jcBv; rw [ho, hw]
theorem jBo.nt {ok : Prop} {r n n' B M T : Int} {b o : Int32} {f f' g g' t : Nat → Int32} (h : jqbN f n) (a : jBo ok (jMy f g t B n M T b) r n n' b o f f' g g') (n0 : 0 ≤ n) : jqbN f' n' := by
  rcases a with ⟨_, _, a3, a4, _⟩ | ⟨_, _, _, a4, a5, _⟩ | ⟨_, _, a3, a4, a5, _⟩
  · subst a4; rw [a3]; exact h
  · subst a5; rw [a4]; exact h
  · subst a5 a4
    intro k hk
    have c := a3.2.2.2.2
    by_cases e : k + 1 = n.toNat
    · rw [e, jqup_eq, jqup_ne (by omega)]
      rcases c with c | c
      · omega
      · rw [show (n - 1).toNat = k by omega] at c; exact c
    · rw [jqup_ne (by omega), jqup_ne (by omega)]; exact h k (by omega)
theorem jBb.nt {c1 c2 : Prop} {r n n' L B M T : Int} {el : Nat → Int64} {t f f' g g' : Nat → Int32} (h : jqbN f n) (a : jBb c1 c2 r n n' f f' g g' (jBs el L B M T t f' g' n')) : jqbN f' n' := by
  rcases a with ⟨_, _, a3, a4, _⟩ | ⟨_, _, _, a4, a5, _⟩ | ⟨_, _, _, s⟩
  · subst a4; rw [a3]; exact h
  · subst a5; rw [a4]; exact h
  · intro k hk
    have c := (s.2.1 (k + 1) (by omega)).2.2.2.2.2.2.2.2.2
    rcases c with c | c
    · omega
    · rw [show (((k + 1 : Nat) : Int) - 1).toNat = k by omega] at c; exact c
theorem jqbN.nil {f : Nat → Int32} {n : Int} (h : n ≤ 0) : jqbN f n := fun k hk => absurd hk (by omega)
theorem jqbN.bk {f f2 g g2 : Nat → Int32} {n n' : Int} (h : jqbN f2 n) (b : jBk f f2 g g2 n) (e : n' = n) : jqbN f n' := fun k hk => by rw [(b k (by omega)).1, (b (k + 1) (by omega)).1]; exact h k (by omega)

theorem jrBv_eq {σ σ' : Nat → Nat → Int32} (q : jqEq σ σ') (e80 : σ' 80 = σ 80) (e81 : σ' 81 = σ 81) (e47 : σ' 55 47 = σ 55 47) : jrBv σ' = jrBv σ := by
  have f := q.f
  obtain ⟨⟨a1, a2, a3, a4, a5, a6⟩, b1, b2, b3, b4, b5, b6, b7⟩ := q
  unfold jrBv; rw [f, a1, b1, e80, e81, e47]
/-! the best by a fresh attack: worth, fields -/
noncomputable def jrFf (σ : Nat → Nat → Int32) (f : Int) (L : Int) (S lf : Nat → Int) (d w : Int) : Int × Int := jV (fun b s t l o w => (jChv (σ 56) (σ 60) (jGr (fun k : Nat => σ 64 (80 * 1 + k)) (σ 65 1).toInt) f (b : Int) s t (jwd l) (jwd o) (jwd w)).toInt) (fun b s t => (jRnv (σ 56) (σ 61) f (b : Int) s t).toInt) (fun y => (σ 62 y).toInt) (σ 55 10).toInt (σ 55 13).toInt ((σ 55 12).toInt - d).toNat L lf S d w
theorem jrF_f {σ : Nat → Nat → Int32} : jrF σ = jrFf σ (σ 55 9).toInt := rfl
theorem jrFf_eq {σ u : Nat → Nat → Int32} {f : Int} (a1 : u 56 = σ 56) (a2 : u 60 = σ 60) (a3 : u 61 = σ 61) (a4 : u 62 = σ 62) (a5 : u 64 = σ 64) (a6 : u 65 = σ 65) (b3 : u 55 10 = σ 55 10) (b4 : u 55 12 = σ 55 12) (b5 : u 55 13 = σ 55 13) (hf : (u 55 9).toInt = f) : jrF u = jrFf σ f := by
  rw [jrF_f, hf]
  funext L S lf d w
  unfold jrFf; rw [a1, a2, a3, a4, a5, a6, b3, b4, b5]
/-- class and reference hold the same -/
def jqSm (σ : Nat → Nat → Int32) : Prop := ((σ 2 0).toInt = (σ 55 6).toInt ∧ (σ 55 6).toInt ≤ 4 ∧ (σ 16 0).toInt = (σ 55 10).toInt ∧ (σ 55 10).toInt ≤ 8 ∧ (σ 16 1).toInt = (σ 55 12).toInt ∧ (σ 55 12).toInt ≤ 12 ∧ (σ 16 2).toInt = (σ 55 13).toInt) ∧ (∀ k : Nat, k < 68 → ((k : Int) < 4 * (σ 55 6).toInt ∨ 16 ≤ k) → σ 3 k = σ 56 k) ∧ (∀ k : Nat, (k : Int) < (σ 55 6).toInt → σ 4 k = σ 60 k ∧ σ 5 k = σ 61 k) ∧ (∀ nm : Nat → Int32, jGb σ nm = jGr (fun k : Nat => σ 64 (80 * 1 + k)) (σ 65 1).toInt nm) ∧ jSo (σ 17) (σ 62) (σ 16 0).toInt ∧ (∀ z : Nat, z < 8 → 0 ≤ (σ 17 z).toInt ∧ (σ 17 z).toInt ≤ 3) ∧ jOk (σ 56)
theorem jqSm.v {σ : Nat → Nat → Int32} (h : jqSm σ) {f L o w : Int} {lf lf' st st' : Nat → Int} (f0 : 0 ≤ f) (f3 : f ≤ 3) (hl : ∀ c : Nat, c < 4 → lf c = lf' c ∧ (0 ≤ lf c ∧ lf c ≤ 15) ∧ ((σ 55 6).toInt ≤ (c : Int) → lf c = 0)) (hs : ∀ c : Nat, c < 4 → (0 < lf c → st c = st' c) ∧ 0 ≤ st c ∧ st c ≤ 3) (o0 : 0 ≤ o) (w0 : 0 ≤ w) : jcF σ f L lf st o w = jrFf σ f L st' lf' o w := by
  obtain ⟨⟨hB, h4, hN, N8, hT, T12, hR⟩, num, tc, bl, so, s3, ok⟩ := h
  unfold jcF jrFf
  rw [hN, hR, hT]
  rw [jV_cong (w0 := 0) (O := o + 100) (B := (σ 55 6).toInt) (fun z _ z1 => ⟨(show (σ 17 z).toInt = (σ 62 z).toInt by rw [so z (by omega)]), s3 z (by omega)⟩) (fun b s t l o w hb hB' hs ht hl ho hw => (show jcCh σ f b s t l o w = (jChv (σ 56) (σ 60) (jGr (fun k : Nat => σ 64 (80 * 1 + k)) (σ 65 1).toInt) f (b : Int) s t (jwd l) (jwd o) (jwd w)).toInt by
      unfold jcCh jChv
      rw [num _ (by omega) (Or.inl (by omega)), num _ (by omega) (Or.inr (by omega)), (tc _ (by omega)).1, bl])) (fun b s t hb hB' hs ht => (show jcRn σ f b s t = (jRnv (σ 56) (σ 61) f (b : Int) s t).toInt by
      unfold jcRn jRnv
      rw [num _ (by omega) (Or.inr (by omega)), num _ (by omega) (Or.inr (by omega)), (tc _ (by omega)).2])) _ L lf st o w (fun c hc => ⟨(hl c hc).2.1, (hs c hc).2, (hl c hc).2.2⟩) o0 (by omega) w0 w0]
  refine jV_qv (ex := true) (fun q => absurd q (by decide)) _ _ _ _ _ _ _ _ (fun c hc => ?_)
  obtain ⟨a1, a2, a3⟩ := hl c hc
  obtain ⟨b1, b2⟩ := hs c hc
  exact ⟨a2.1, by omega, fun _ z => b1 z, fun z _ => b1 z, by rw [a1], fun _ _ => a1⟩
/-- by OVERS told, one of them changed -/
def jqLo (t : Nat → Int32) (B b x : Int) : Nat → Int := fun c => if (c : Int) = b then x else if (c : Int) < B then jmx (t (32 + c)).toInt else 0
noncomputable def jcW (σ : Nat → Nat → Int32) (f b x : Int) : Int := (jcF σ f (-1) (jqLo (σ 3) (σ 2 0).toInt b x) (fun _ => 0) 0 0).2
noncomputable def jrW2 (σ : Nat → Nat → Int32) (f b x : Int) : Int := (jrFf σ f (-1) (fun _ => 0) (jqLo (σ 56) (σ 55 6).toInt b x) 0 0).2
theorem jqSm.w {σ : Nat → Nat → Int32} (h : jqSm σ) {f b x : Int} (f0 : 0 ≤ f) (f3 : f ≤ 3) (hb : b < (σ 55 6).toInt) (x0 : 0 ≤ x) (x1 : x ≤ 15) : jcW σ f b x = jrW2 σ f b x := by
  have hB := h.1.1
  have num := h.2.1
  have ok := h.2.2.2.2.2.2
  unfold jcW jrW2
  rw [h.v (lf' := jqLo (σ 56) (σ 55 6).toInt b x) (st' := fun _ => 0) f0 f3 (fun c hc => ?_) (fun c hc => ⟨fun _ => rfl, by decide, by decide⟩) (by decide) (by decide)]
  have e : σ 3 (32 + c) = σ 56 (32 + c) := num (32 + c) (by omega) (Or.inr (by omega))
  have a := ok c hc
  unfold jqLo
  rw [hB, e]
  refine ⟨rfl, ?_, fun z => ?_⟩
  · split
    · omega
    · split
      · unfold jmx; split <;> omega
      · omega
  · rw [if_neg (by omega), if_neg (by omega)]
/-- an attack with these OVERS left -/
theorem jcF_lo {σ : Nat → Nat → Int32} {f b x : Int} {r : Int32} (hl : jla r = -1) (hs : ∀ c : Nat, c < 4 → jst r c = 0) (hf : ∀ c : Nat, c < 4 → jlf r c = jqLo (σ 3) (σ 2 0).toInt b x c) : (jcF σ f (jla r) (jlf r) (jst r) 0 0).2 = jcW σ f b x := by
  unfold jcW jcF
  rw [hl]
  exact congrArg Prod.snd (jV_qv (ex := true) (fun q => absurd q (by decide)) _ _ _ _ _ _ _ _ (fun c hc => by
    have e := hf c hc
    have p := jlf_r r c hc
    exact ⟨p.1, by omega, fun _ _ => hs c hc, fun _ _ => hs c hc, by rw [e], fun _ _ => e⟩))
theorem jAz.lo {t : Nat → Int32} {B : Int} {r : Int32} (h : jAz t B r) (ok : jOk t) {b x : Int} (hb : b < 0) : ∀ c : Nat, c < 4 → jlf r c = jqLo t B b x c := by
  intro c hc
  have k := jofn4 hc
  have q := h.1 (Int32.ofNat c) (by omega) (by omega)
  have a := ok c hc
  unfold jlf jqLo
  rw [q, if_neg (by omega)]
  unfold jOx
  rw [k.2.2]
  by_cases e : (c : Int) < B
  · rw [if_pos e, if_pos e, show (32 + (c : Int)).toNat = 32 + c by omega]; unfold jmx; rw [if_neg (by omega)]
  · rw [if_neg e, if_neg e]
theorem jAz.wl {t : Nat → Int32} {B : Int} {r s b x : Int32} (h : jAz t B r) (ok : jOk t) (e : s = jWl r b x) (b0 : 0 ≤ b.toInt) (b3 : b.toInt ≤ 3) (x0 : 0 ≤ x.toInt) (x1 : x.toInt ≤ 15) : (∀ c : Nat, c < 4 → jlf s c = jqLo t B b.toInt x.toInt c) ∧ jla s = jla r ∧ ∀ c : Nat, c < 4 → jst s c = jst r c := by
  refine ⟨fun c hc => ?_, by rw [e, jla_Wl b0 b3], fun c hc => by rw [e, jst_Wl b0 b3 c hc]⟩
  rw [e, jlf_Wl b0 b3 x0 x1 c hc]
  have q := h.lo ok (b := -1) (x := 0) (by decide) c hc
  unfold jqLo at q ⊢
  rw [q]
  by_cases z : (c : Int) = b.toInt
  · rw [if_pos z, if_pos z]
  · rw [if_neg z, if_neg z, if_neg (by omega)]
/-- the reference, from the start of an innings -/
theorem jrNow {σ u : Nat → Nat → Int32} {f b x : Int} (a1 : u 56 = σ 56) (a2 : u 60 = σ 60) (a3 : u 61 = σ 61) (a4 : u 62 = σ 62) (a5 : u 64 = σ 64) (a6 : u 65 = σ 65) (b1 : u 55 6 = σ 55 6) (b3 : u 55 10 = σ 55 10) (b4 : u 55 12 = σ 55 12) (b5 : u 55 13 = σ 55 13) (hf : (u 55 9).toInt = f) (z68 : jZr (u 68) 4) (z69 : jZr (u 69) 4) (e25 : (u 55 25).toInt = 0) (e26 : (u 55 26).toInt = 0) (e27 : (u 55 27).toInt = -1) (h4 : (σ 55 6).toInt ≤ 4) (h12 : (σ 55 12).toInt ≤ 8) (h8 : (σ 55 10).toInt ≤ 8) (ok : jOk (σ 56)) (hw : ∀ c : Nat, c < 4 → (c : Int) < (σ 55 6).toInt → jrOv u c = if (c : Int) = b then x else (σ 56 (32 + c)).toInt) (x0 : 0 ≤ x ∧ x ≤ 100) (hr : ∀ c : Nat, c < 4 → -1000 ≤ jrOv u c ∧ jrOv u c ≤ 1000) (hb : b < (σ 55 6).toInt) : jrP u ∧ (jrV u).2 = jrW2 σ f b x := by
  refine ⟨⟨fun c hc => ?_, by rw [b1]; exact h4, by rw [b4]; omega, by rw [b3]; exact h8⟩, ?_⟩
  · have e1 : jrS u c = 0 := by unfold jrS; rw [z68 c (by omega)]; decide
    have e2 : jrW u c = 0 := by unfold jrW; rw [z69 c (by omega)]; decide
    rw [e1, e2, e26, b4]
    exact ⟨by omega, by omega, hr c hc, Or.inr h12⟩
  · unfold jrV jrW2
    rw [e25, e26, e27, jrFf_eq a1 a2 a3 a4 a5 a6 b3 b4 b5 hf]
    unfold jrFf
    refine congrArg Prod.snd (jV_qv (ex := true) (fun q => absurd q (by decide)) _ _ _ _ _ _ _ _ (fun c hc => ?_))
    have a := ok c hc
    have e1 : jrS u c = 0 := by unfold jrS; rw [z68 c (by omega)]; decide
    have e2 : jrW u c = 0 := by unfold jrW; rw [z69 c (by omega)]; decide
    have e : jrLf u c = jqLo (σ 56) (σ 55 6).toInt b x c := by
      unfold jrLf jqLr jqLo
      rw [b1, e2]
      by_cases z : (c : Int) < (σ 55 6).toInt
      · rw [if_pos z, hw c hc z, if_pos z]
        by_cases y : (c : Int) = b
        · rw [if_pos y, if_pos y]; unfold jmx; rw [if_neg (by omega)]; omega
        · rw [if_neg y, if_neg y]; unfold jmx; split <;> split <;> omega
      · rw [if_neg z, if_neg (by omega), if_neg z]
    have p := jqLr_0 (nb := (u 55 6).toInt) (ov := jrOv u) (W := jrW u) c
    exact ⟨p, by rw [← e]; exact p, fun _ _ => e1, fun _ _ => e1, by rw [e], fun _ _ => e⟩
/-- a difference of two means -/
def jqWo (r : Int32) (bad one : Prop) (n0 n1 : Int) : Prop := (bad ∧ r = -2000000000) ∨ (¬ bad ∧ ∃ x y : Int32, x.toInt = n1 ∧ y.toInt = n0 ∧ ((one ∧ r = x - y) ∨ (¬ one ∧ r = y - x)))
theorem jqWo.det {r r' : Int32} {bad one : Prop} {n0 n1 : Int} (h : jqWo r bad one n0 n1) (h' : jqWo r' bad one n0 n1) : r = r' := by
  rcases h with ⟨a, b⟩ | ⟨a, x, y, hx, hy, c⟩ <;> rcases h' with ⟨a', b'⟩ | ⟨a', x', y', hx', hy', c'⟩
  · rw [b, b']
  · exact absurd a a'
  · exact absurd a' a
  · have ex : x = x' := Int32.toInt_inj.mp (by rw [hx, hx'])
    have ey : y = y' := Int32.toInt_inj.mp (by rw [hy, hy'])
    subst ex ey
    rcases c with ⟨c, d⟩ | ⟨c, d⟩ <;> rcases c' with ⟨c', d'⟩ | ⟨c', d'⟩
    · rw [d, d']
    · exact absurd c c'
    · exact absurd c' c
    · rw [d, d']
theorem jcF_eq {σ u : Nat → Nat → Int32} (e3 : u 3 = σ 3) (e4 : u 4 = σ 4) (e5 : u 5 = σ 5) (e23 : u 23 = σ 23) (e22 : u 22 0 = σ 22 0) (e17 : u 17 = σ 17) (e160 : u 16 0 = σ 16 0) (e161 : u 16 1 = σ 16 1) (e162 : u 16 2 = σ 16 2) : jcF u = jcF σ := by
  have g : jGb u = jGb σ := by unfold jGb; rw [e23, e22]
  have c1 : jcCh u = jcCh σ := by unfold jcCh; rw [e3, e4, g]
  have c2 : jcRn u = jcRn σ := by unfold jcRn; rw [e3, e5]
  funext f L lf st o w
  unfold jcF; rw [c1, c2, e17, e160, e161, e162]
theorem jrW2_eq {σ u : Nat → Nat → Int32} (a1 : u 56 = σ 56) (a2 : u 60 = σ 60) (a3 : u 61 = σ 61) (a4 : u 62 = σ 62) (a5 : u 64 = σ 64) (a6 : u 65 = σ 65) (b1 : u 55 6 = σ 55 6) (b3 : u 55 10 = σ 55 10) (b4 : u 55 12 = σ 55 12) (b5 : u 55 13 = σ 55 13) : jrW2 u = jrW2 σ := by
  funext f b x
  unfold jrW2 jrFf; rw [a1, a2, a3, a4, a5, a6, b1, b3, b4, b5]
theorem jrOv_eq {σ u : Nat → Nat → Int32} (a1 : u 56 = σ 56) (b6 : u 55 30 = σ 55 30) (b7 : u 55 31 = σ 55 31) : jrOv u = jrOv σ := by funext c; unfold jrOv; rw [a1, b6, b7]
theorem jrOv_r {σ : Nat → Nat → Int32} (h : ∀ k : Nat, k < 68 → -200 ≤ (σ 56 k).toInt ∧ (σ 56 k).toInt ≤ 500) (c : Nat) (hc : c < 4) : -1000 ≤ jrOv σ c ∧ jrOv σ c ≤ 1000 := by
  have a := h (32 + c) (by omega)
  have e : (σ 56 (32 + c) + 1).toInt = (σ 56 (32 + c)).toInt + 1 := jadd (x := σ 56 (32 + c) + 1) rfl rfl (show (1 : Int32).toInt = 1 by decide) (by omega) (by omega)
  unfold jrOv
  split
  · exact ⟨by decide, by decide⟩
  · split
    · rw [e]; omega
    · omega
theorem jrOv_0 {u : Nat → Nat → Int32} (w : (u 55 30).toInt = -1) (o : (u 55 31).toInt = -1) (c : Nat) (hc : c < 4) : jrOv u c = if (c : Int) = -1 then 0 else (u 56 (32 + c)).toInt := by
  have k := jofn4 hc
  unfold jrOv
  rw [if_neg (fun q => by rw [q] at k; omega), if_neg (fun q => by rw [q] at k; omega), if_neg (by omega)]
theorem jrOv_wo {u : Nat → Nat → Int32} {b : Int} (w : (u 55 30).toInt = b) (o : (u 55 31).toInt = -1) (c : Nat) (hc : c < 4) : jrOv u c = if (c : Int) = b then 0 else (u 56 (32 + c)).toInt := by
  have k := jofn4 hc
  unfold jrOv
  by_cases e : (c : Int) = b
  · rw [if_pos e, if_pos (jofn4_eq hc (by omega)).symm]; decide
  · rw [if_neg e, if_neg (fun q => by rw [q] at k; omega), if_neg (fun q => by rw [q] at k; omega)]
theorem jrOv_om {u : Nat → Nat → Int32} {b : Int} (w : (u 55 30).toInt = -1) (o : (u 55 31).toInt = b) (ok : jOk (u 56)) (b0 : 0 ≤ b) (b3 : b ≤ 3) (c : Nat) (hc : c < 4) : jrOv u c = if (c : Int) = b then (u 56 (32 + b).toNat).toInt + 1 else (u 56 (32 + c)).toInt := by
  have k := jofn4 hc
  have a := ok c hc
  unfold jrOv
  rw [if_neg (fun q => by rw [q] at k; omega)]
  by_cases e : (c : Int) = b
  · rw [if_pos e, if_pos (jofn4_eq hc (by omega)).symm, show (32 + b).toNat = 32 + c by omega]
    exact jadd (x := u 56 (32 + c) + 1) rfl rfl (show (1 : Int32).toInt = 1 by decide) (by omega) (by omega)
  · rw [if_neg e, if_neg (fun q => by rw [q] at k; omega)]
theorem jqWo.same {r r' : Int32} {bad one : Prop} {n0 n1 m0 m1 : Int} (h : jqWo r bad one n0 n1) (h' : jqWo r' bad one m0 m1) (e : ¬ bad → n0 = m0 ∧ n1 = m1) : r = r' := by
  by_cases c : bad
  · rcases h with ⟨_, b⟩ | ⟨a, _⟩
    · rcases h' with ⟨_, b'⟩ | ⟨a, _⟩
      · rw [b, b']
      · exact absurd c a
    · exact absurd c a
  · rw [(e c).1, (e c).2] at h; exact h.det h'
/-- the first least -/
def jqLe (g : Nat → Int) (n a v : Int) : Prop := jPk (fun _ => true) g n.toNat = (a, v) ∧ 0 ≤ a
theorem jqLe.first {g : Nat → Int} {n a v : Int} (hn : n = 1) (ha : a = 0) (hv : v = g 0) : jqLe g n a v := by
  subst hn ha hv
  refine ⟨?_, by decide⟩
  show jPk (fun _ => true) g 1 = _
  rw [jPk, if_pos ⟨rfl, Or.inl (show (-1 : Int) < 0 by decide)⟩]; rfl
theorem jqLe.step {g : Nat → Int} {n n' a v a' v' x : Int} (h : jqLe g n a v) (n0 : 0 ≤ n) (hx : x = g n.toNat) (c : (x < v ∧ a' = n ∧ v' = x) ∨ (v ≤ x ∧ a' = a ∧ v' = v)) (hn : n' = n + 1) : jqLe g n' a' v' := by
  subst hn
  refine ⟨?_, by have := h.2; omega⟩
  rw [show (n + 1).toNat = n.toNat + 1 by omega, jPk, h.1]
  have a0 := h.2
  rcases c with ⟨c, e1, e2⟩ | ⟨c, e1, e2⟩
  · rw [if_pos ⟨rfl, Or.inr (by show g n.toNat < v; omega)⟩, e1, e2, hx]; exact Prod.ext (by show ((n.toNat : Nat) : Int) = n; omega) rfl
  · rw [if_neg (fun z => by rcases z.2 with z | z <;> simp only at z <;> omega), e1, e2]
theorem jqLe.cong {g g' : Nat → Int} {n a v : Int} (h : jqLe g n a v) (e : ∀ k : Nat, (k : Int) < n → g k = g' k) : jqLe g' n a v :=
  ⟨by rw [← jPk_eq (m := fun _ => true) (m' := fun _ => true) (fun _ _ => rfl) (fun b hb _ => e b (by omega))]; exact h.1, h.2⟩
theorem jqLe.det {g : Nat → Int} {n a v a' v' : Int} (h : jqLe g n a v) (h' : jqLe g n a' v') : a = a' := by
  have := h.1.symm.trans h'.1; exact congrArg Prod.fst this
/-- an answer of fielded -/
def jqFd (r f what T : Int) (g : Nat → Int) : Prop := ((¬ (0 ≤ what ∧ what ≤ 1) ∨ (what = 0 ∧ ¬ (0 ≤ f ∧ f ≤ 3))) ∧ r = -1) ∨ ((0 ≤ what ∧ what ≤ 1) ∧ (what = 0 → 0 ≤ f ∧ f ≤ 3) ∧ ((8 < T ∧ r = -4) ∨ (T ≤ 8 ∧ what = 0 ∧ r = g f.toNat) ∨ (T ≤ 8 ∧ what = 1 ∧ ∃ v : Int, jqLe g 4 r v)))
theorem jqFd.same {r r' f what T : Int} {g g' : Nat → Int} (h : jqFd r f what T g) (h' : jqFd r' f what T g') (e : ∀ k : Nat, k < 4 → g k = g' k) : r = r' := by
  rcases h with ⟨a, b⟩ | ⟨a, b, c⟩ <;> rcases h' with ⟨a', b'⟩ | ⟨a', b', c'⟩
  · omega
  · omega
  · omega
  · rcases c with ⟨c, d⟩ | ⟨c, d, k⟩ | ⟨c, d, v, k⟩ <;> rcases c' with ⟨c', d'⟩ | ⟨c', d', k'⟩ | ⟨c', d', v', k'⟩
    · omega
    · omega
    · omega
    · omega
    · have := b d; rw [k, k']; exact e _ (by omega)
    · omega
    · omega
    · omega
    · exact (k.cong (fun x hx => e x (by omega))).det k'
/-! states in the graph -/
theorem jTf_next {ex : Bool} {k : Int} {A a1 a2 T T' : Int32} {b : Nat} (h : jTf ex (k + 1) A T) (hk : 1 ≤ k) (hb : b < 4) (hl : (b : Int) ≠ jla A) (lf : 0 < jlf A b) (g1 : jAg T b a1) (g2 : jAg A b a2) (t : jTf ex k a1 T') : jTf ex k a2 T' := by
  refine ⟨by rw [t.1, g1.1, g2.1], fun c hc => ?_⟩
  obtain ⟨t1, t2⟩ := t.2 c hc
  obtain ⟨h1, h2⟩ := h.2 c hc
  obtain ⟨x1, x2⟩ := g1.2 c hc
  obtain ⟨y1, y2⟩ := g2.2 c hc
  obtain ⟨hb1, hb2⟩ := h.2 b hb
  have rA := jlf_r A c hc
  have rT := jlf_r T c hc
  have eT : jlf T c = jCu ex (k + 1) (jla A) c (jlf A c) := h1
  have e1 : jlf T' c = jCu ex k b c (jlf a1 c) := by rw [t1, g1.1]; rfl
  have lb : 0 < jlf T b := by
    rw [hb1]; unfold jMo2; rw [if_neg hl]; split <;> omega
  have q := jCu_next (ex := ex) (k := k) (l := jla A) (x := jlf A c) (c := 0) (b := b) (z := c) hk hl
  rw [show jmx (jlf A c - 0) = jlf A c by unfold jmx; split <;> omega] at q
  have e2 : jlf T' c = jCu ex k b c (jlf a2 c) := by
    rw [e1, x1, eT, y1]
    by_cases z : c = b
    · subst z
      rw [if_pos rfl] at q ⊢
      rw [if_pos rfl] at q ⊢
      rw [q]; congr 1
    · rw [if_neg z] at q ⊢
      rw [if_neg z] at q ⊢
      rw [q]; unfold jmx; rw [if_neg (by omega)]; congr 1; omega
  refine ⟨by rw [e2, g2.1]; rfl, ?_⟩
  rw [t2]
  by_cases z0 : jlf T' c = 0
  · rw [if_pos z0, if_pos z0]
  · rw [if_neg z0, if_neg z0, x2, y2]
    by_cases z : c = b
    · rw [if_pos z, if_pos z]
      have e : jst T b = jst A b := by rw [hb2, if_neg (by omega)]
      rw [z, e]
    · rw [if_neg z, if_neg z]
      have n0 : jlf T c ≠ 0 := fun e => z0 (by
        rw [e1, x1, if_neg z, e]; unfold jCu jMo2; rw [if_neg]; rintro ⟨_, w⟩; split at w <;> omega)
      rw [h2, if_neg n0]
def jqRe (u : Nat → Nat → Int32) (d : Int) (a : Int32) : Prop := ∃ (j : Nat) (T : Int32), (j : Int) < (u 31 8).toInt ∧ jqNo (u 32 j) T d ∧ jTf (decide ((u 31 12).toInt ≠ 0)) ((u 31 11).toInt - d) a T
theorem jqRe.root {u : Nat → Nat → Int32} {a : Int32} (kg : jKg u) (fm : jFm a) (e9 : u 31 9 = a) (lv1 : 1 ≤ (u 31 11).toInt) : jqRe u 0 a := by
  obtain ⟨n1, T, tf, no⟩ := (kg (by rw [e9]; exact fm)).2.2.2.1 lv1
  exact ⟨0, T, by omega, no, by rw [e9] at tf; rw [show (u 31 11).toInt - 0 = (u 31 11).toInt by omega]; exact tf⟩
theorem jTf_my {ex : Bool} {k : Int} {A T : Int32} {b : Nat} (h : jTf ex k A T) (hk : 1 ≤ k) (hb : b < 4) : jqMy T b ↔ jqMy A b := by
  obtain ⟨h1, _⟩ := h.2 b hb
  have r := jlf_r A b hb
  unfold jqMy
  rw [h.1, h1]
  unfold jMo2
  constructor
  · rintro ⟨p, q⟩; refine ⟨p, ?_⟩; split at q <;> omega
  · rintro ⟨p, q⟩; refine ⟨p, ?_⟩; rw [if_neg p]; split <;> omega
theorem jqRe.next {u : Nat → Nat → Int32} {r a a2 : Int32} {d : Int} {b : Nat} (h : jqRe u d a) (kg : jKg u) (fm : jFm r) (e9 : u 31 9 = r) (d1 : d + 1 < (u 31 11).toInt) (hb : b < 4) (my : jqMy a b) (g2 : jAg a b a2) : jqRe u (d + 1) a2 := by
  obtain ⟨j, T, jn, no, tf⟩ := h
  have go := kg (by rw [e9]; exact fm)
  have kc := go.2.2.2.2 j b hb (Or.inl ⟨jn, jn⟩)
  have mT := (jTf_my tf (by omega) hb).mpr my
  rcases (kc T d no).1 mT with ⟨e, _⟩ | ⟨_, j2, a1, T2, _, jn2, _, g1, tf2, no2⟩
  · omega
  · refine ⟨j2, T2, jn2, no2, ?_⟩
    rw [show (u 31 11).toInt - d = ((u 31 11).toInt - (d + 1)) + 1 by omega] at tf
    exact jTf_next tf (by omega) hb my.1 my.2 g1 g2 tf2
/-- a node's answer is the state's -/
theorem jqRe.v {σ u : Nat → Nat → Int32} {ln : Nat} {a : Int32} {w d : Int} (h : jqRe u d a) (sr : jqSr σ u ln w 0) (dep : jDep (jGb σ) (σ 22 1)) (hx : (u 31 12).toInt ≠ 0 ↔ (σ 22 1).toBitVec.getLsbD 5 = true) (d0 : 0 ≤ d) (d1 : d < (u 31 11).toInt) (w0 : 0 ≤ w) : ∃ (j : Nat) (T : Int32), (j : Int) < (u 31 8).toInt ∧ jqNo (u 32 j) T d ∧ jTf (decide ((u 31 12).toInt ≠ 0)) ((u 31 11).toInt - d) a T ∧ ∀ z : Int, w ≤ z → z ≤ w + 1 + d → z < (σ 16 0).toInt → ((u 35 (9 * (j : Int) + z).toNat).toInt, (u 34 (9 * (j : Int) + z).toNat).toInt) = jV (jChc σ) (jRnc σ) (fun y => (σ ln y).toInt) (σ 16 0).toInt (σ 16 2).toInt ((u 31 11).toInt - d).toNat (jla a) (jlf a) (jst a) ((u 31 10).toInt + d) z := by
  obtain ⟨j, T, jn, no, tf⟩ := h
  refine ⟨j, T, jn, no, tf, fun z z0 z1 zN => ?_⟩
  have rt := (sr.1 j (by omega) jn).1 T d no z.toNat (by omega) (by omega) (by omega)
  rw [show (9 * (j : Int) + ((z.toNat : Nat) : Int)).toNat = (9 * (j : Int) + z).toNat by congr 1; omega, show ((z.toNat : Nat) : Int) = z by omega] at rt
  rw [rt, tf.1]
  rw [show (u 31 11).toInt - d = ((((u 31 11).toInt - d).toNat : Nat) : Int) by omega] at tf
  have q := tf.qv (by omega)
  refine (jV_qv (ex := decide ((u 31 12).toInt ≠ 0)) (fun e b s t l l' o w' => dep.ch (fun z => ?_) b s t l l' o w') _ _ _ _ _ _ _ _ q).symm
  have := of_decide_eq_false e; exact this (hx.mpr z)
/-- where nodeOf finds a state -/
def jqNd (u : Nat → Nat → Int32) (d : Int) (a : Int32) (r : Int) : Prop := ∀ (j : Nat) (T : Int32), (j : Int) < (u 31 8).toInt → jqNo (u 32 j) T d → jTf (decide ((u 31 12).toInt ≠ 0)) ((u 31 11).toInt - d) a T → d < (u 31 11).toInt → r = (j : Int)
theorem jqNd.of {u : Nat → Nat → Int32} {d s r : Int} {a t y : Int32} (kh : jKh u) (tf : jTf (decide ((u 31 12).toInt ≠ 0)) ((u 31 11).toInt - d) a t) (t0 : 0 ≤ t.toInt) (t1 : t.toInt ≤ 134217727) (ey : y.toInt = t.toInt + d * 134217728) (sf : jqSf (u 31 8).toInt (u 32) (u 36) (u 37) y s) (hr : (0 ≤ s ∧ jqTk (u 31 8).toInt (u 36) (u 37) s ∧ r = (u 36 s.toNat).toInt) ∨ (s < 0 ∨ ¬ jqTk (u 31 8).toInt (u 36) (u 37) s)) : jqNd u d a r := by
  intro j T jn no tf2 _
  have e : t = T := tf.det tf2 ⟨t0, t1⟩ no.2.1
  subst e
  have k : u 32 j = y := Int32.toInt_inj.mp (by rw [no.1, ey])
  have f := jqHs.found kh sf jn k
  rcases hr with ⟨_, _, e⟩ | e | e
  · rw [e, f.2.2]
  · omega
  · exact absurd f.2.1 e
theorem jqNd.out {u : Nat → Nat → Int32} {d r : Int} {a : Int32} (h : d < 0 ∨ (u 31 11).toInt ≤ d) : jqNd u d a r := fun j T _ no _ d1 => by have := no.2.2; omega
theorem jqSr.self {σ u : Nat → Nat → Int32} {ln : Nat} {w : Int} (h : jqSr σ u ln w 0) (e27 : u 27 = σ 27) (e28 : u 28 = σ 28) (e23 : u 23 = σ 23) (e22 : u 22 0 = σ 22 0) (eln : u ln = σ ln) (e160 : u 16 0 = σ 16 0) (e162 : u 16 2 = σ 16 2) : jqSr u u ln w 0 := by
  refine ⟨?_, fun k hk => absurd hk (by omega)⟩
  rw [jChc_eq e27 e23 e22, jRnc_eq e28, eln, e160, e162]; exact h.1
/-- who is kept: over by over with nobody out, till b is the best -/
def jKp (F : Int → (Nat → Int) → (Nat → Int) → Int → Int) (b : Int) : Nat → Int → (Nat → Int) → (Nat → Int) → Int → Int
  | 0, _, _, _, _ => -2
  | k + 1, L, lf, st, d => if F L lf st d < 0 then -2 else if F L lf st d = b then d else jKp F b k (F L lf st d) (jLn lf (F L lf st d).toNat) (jSn st (F L lf st d).toNat) (d + 1)
def jKq (L : Int) (lf lf' st st' : Nat → Int) : Prop := ∀ c : Nat, c < 4 → 0 ≤ lf c ∧ lf c = lf' c ∧ (0 < lf c → st c = st' c)
def jKF (F : Int → (Nat → Int) → (Nat → Int) → Int → Int) : Prop := (∀ (L : Int) (lf lf' st st' : Nat → Int) (d : Int), jKq L lf lf' st st' → F L lf st d = F L lf' st' d) ∧ ∀ (L : Int) (lf st : Nat → Int) (d : Int), 0 ≤ F L lf st d → ∃ c : Nat, c < 4 ∧ F L lf st d = (c : Int) ∧ (c : Int) ≠ L ∧ 0 < lf c
theorem jKq.next {L M : Int} {lf lf' st st' : Nat → Int} {b : Nat} (h : jKq L lf lf' st st') (hb : b < 4) (h0 : 0 < lf b) : jKq M (jLn lf b) (jLn lf' b) (jSn st b) (jSn st' b) := by
  intro c hc
  obtain ⟨a1, a2, a3⟩ := h c hc
  have hs := (h b hb).2.2 h0
  unfold jLn jSn
  by_cases e : c = b
  · subst e; rw [if_pos rfl, if_pos rfl, if_pos rfl, if_pos rfl, hs, ← a2]; exact ⟨by omega, rfl, fun _ => rfl⟩
  · rw [if_neg e, if_neg e, if_neg e, if_neg e]; exact ⟨a1, a2, fun z => by rw [a3 z]⟩
theorem jKp.cong {F : Int → (Nat → Int) → (Nat → Int) → Int → Int} (hF : jKF F) {b : Int} : ∀ (k : Nat) (L : Int) (lf lf' st st' : Nat → Int) (d : Int), jKq L lf lf' st st' → jKp F b k L lf st d = jKp F b k L lf' st' d
  | 0, _, _, _, _, _, _, _ => rfl
  | k + 1, L, lf, lf', st, st', d, h => by
    rw [jKp, jKp, ← hF.1 L lf lf' st st' d h]
    by_cases c : F L lf st d < 0
    · rw [if_pos c, if_pos c]
    · rw [if_neg c, if_neg c]
      obtain ⟨x, x4, ex, _, lx⟩ := hF.2 L lf st d (by omega)
      by_cases e : F L lf st d = b
      · rw [if_pos e, if_pos e]
      · rw [if_neg e, if_neg e]
        refine jKp.cong hF k _ _ _ _ _ _ ?_
        rw [ex, show ((x : Int)).toNat = x by omega]
        exact h.next x4 lx
/-- the same by both -/
theorem jKp.same {F F' : Int → (Nat → Int) → (Nat → Int) → Int → Int} {b B : Int} (hF : jKF F) (e : ∀ (L : Int) (lf st : Nat → Int) (d : Int), (∀ c : Nat, c < 4 → (0 ≤ lf c ∧ lf c ≤ 15) ∧ (0 ≤ st c ∧ st c ≤ 3) ∧ (B ≤ (c : Int) → lf c = 0)) → 0 ≤ d → F L lf st d = F' L lf st d) : ∀ (k : Nat) (L : Int) (lf st : Nat → Int) (d : Int), (∀ c : Nat, c < 4 → (0 ≤ lf c ∧ lf c ≤ 15) ∧ (0 ≤ st c ∧ st c ≤ 3) ∧ (B ≤ (c : Int) → lf c = 0)) → 0 ≤ d → jKp F b k L lf st d = jKp F' b k L lf st d
  | 0, _, _, _, _, _, _ => rfl
  | k + 1, L, lf, st, d, h, d0 => by
    rw [jKp, jKp, ← e L lf st d h d0]
    by_cases c : F L lf st d < 0
    · rw [if_pos c, if_pos c]
    · rw [if_neg c, if_neg c]
      obtain ⟨x, x4, ex, _, lx⟩ := hF.2 L lf st d (by omega)
      by_cases q : F L lf st d = b
      · rw [if_pos q, if_pos q]
      · rw [if_neg q, if_neg q]
        refine jKp.same hF e k _ _ _ _ (fun c hc => ?_) (by omega)
        rw [ex, show ((x : Int)).toNat = x by omega]
        obtain ⟨a1, a2, a3⟩ := h c hc
        unfold jLn jSn
        by_cases z : c = x
        · rw [if_pos z, if_pos z]; subst z; refine ⟨by omega, by split <;> omega, fun w => by have := a3 w; omega⟩
        · rw [if_neg z, if_neg z]; exact ⟨a1, by split <;> omega, a3⟩
noncomputable def jcK (σ : Nat → Nat → Int32) (f : Int) : Int → (Nat → Int) → (Nat → Int) → Int → Int := fun L lf st d => (jcF σ f L lf st d 0).1
noncomputable def jrK (σ : Nat → Nat → Int32) (f : Int) : Int → (Nat → Int) → (Nat → Int) → Int → Int := fun L lf st d => (jrFf σ f L st lf d 0).1
theorem jV_K {ch : Nat → Int → Int → Int → Int → Int → Int} {rn : Nat → Int → Int → Int} {so : Nat → Int} {n R T : Int} : jKF (fun L lf st d => (jV ch rn so n R (T - d).toNat L lf st d 0).1) := by
  refine ⟨fun L lf lf' st st' d h => ?_, fun L lf st d h => ?_⟩
  · exact congrArg Prod.fst (jV_qv (ex := true) (fun q => absurd q (by decide)) _ _ _ _ _ _ _ _ (fun c hc => by
      obtain ⟨a1, a2, a3⟩ := h c hc
      exact ⟨a1, by omega, fun _ q => a3 q, fun q _ => a3 q, by rw [a2], fun _ _ => a2⟩))
  · have h : 0 ≤ (jV ch rn so n R (T - d).toNat L lf st d 0).1 := h
    show ∃ c : Nat, c < 4 ∧ (jV ch rn so n R (T - d).toNat L lf st d 0).1 = (c : Int) ∧ _
    generalize (T - d).toNat = k at h ⊢
    cases k with
    | zero => exact absurd h (by show ¬ (0 : Int) ≤ -1; decide)
    | succ k =>
      rw [jV] at h ⊢
      by_cases c : n ≤ 0
      · rw [if_pos c] at h; exact absurd h (by decide)
      · rw [if_neg c] at h ⊢
        obtain ⟨b, b4, eb, mb⟩ := jPk_may h
        have mb := of_decide_eq_true mb
        exact ⟨b, b4, eb, mb.1, mb.2⟩
theorem jcK_F {σ : Nat → Nat → Int32} {f : Int} : jKF (jcK σ f) := jV_K
theorem jrK_F {σ : Nat → Nat → Int32} {f : Int} : jKF (jrK σ f) := jV_K
/-- one over on -/
theorem jKp.on {F : Int → (Nat → Int) → (Nat → Int) → Int → Int} (hF : jKF F) {b x d d' T L' : Int} {L : Int} {lf st lf' st' : Nat → Int} (hx : F L lf st d = x) (x0 : 0 ≤ x) (xb : x ≠ b) (hd : d' = d + 1) (dT : d < T) (hL : L' = x) (h : ∀ c : Nat, c < 4 → lf' c = jLn lf x.toNat c ∧ 0 ≤ lf' c ∧ (0 < lf' c → st' c = jSn st x.toNat c)) : jKp F b (T - d).toNat L lf st d = jKp F b (T - d').toNat L' lf' st' d' := by
  subst hd hL
  obtain ⟨k, hk⟩ : ∃ k : Nat, (T - d).toNat = k + 1 := ⟨(T - d).toNat - 1, by omega⟩
  rw [hk, jKp, hx, if_neg (by omega), if_neg xb, show (T - (d + 1)).toNat = k by omega]
  exact (jKp.cong hF k _ _ _ _ _ _ (fun c hc => by
    obtain ⟨a1, a2, a3⟩ := h c hc
    exact ⟨a2, a1, a3⟩)).symm
theorem jKp.got {F : Int → (Nat → Int) → (Nat → Int) → Int → Int} {b d T : Int} {L : Int} {lf st : Nat → Int} (hx : F L lf st d = b) (b0 : 0 ≤ b) (dT : d < T) : jKp F b (T - d).toNat L lf st d = d := by
  obtain ⟨k, hk⟩ : ∃ k : Nat, (T - d).toNat = k + 1 := ⟨(T - d).toNat - 1, by omega⟩
  rw [hk, jKp, hx, if_neg (by omega), if_pos rfl]
theorem jKp.no {F : Int → (Nat → Int) → (Nat → Int) → Int → Int} {b d T : Int} {L : Int} {lf st : Nat → Int} (h : T ≤ d ∨ F L lf st d < 0) : jKp F b (T - d).toNat L lf st d = -2 := by
  by_cases c : T ≤ d
  · rw [show (T - d).toNat = 0 by omega]; rfl
  · obtain ⟨k, hk⟩ : ∃ k : Nat, (T - d).toNat = k + 1 := ⟨(T - d).toNat - 1, by omega⟩
    rw [hk, jKp, if_pos (by omega)]
/-- an attack behind an over, in fields -/
theorem jAg.ln {A r : Int32} {b : Nat} (g : jAg A b r) (h : 0 < jlf A b) (hb : b < 4) : jla r = (b : Int) ∧ ∀ c : Nat, c < 4 → jlf r c = jLn (jlf A) b c ∧ 0 ≤ jlf r c ∧ (0 < jlf r c → jst r c = jSn (jst A) b c) := by
  refine ⟨g.1, fun c hc => ?_⟩
  obtain ⟨a1, a2⟩ := g.2 c hc
  have p := jlf_r r c hc
  have a3 : jst r c = jSn (jst A) b c := by
    rw [a2]; unfold jSn
    by_cases e : c = b
    · rw [if_pos e, if_pos e, e]
    · rw [if_neg e, if_neg e]
  refine ⟨?_, p.1, fun _ => a3⟩
  rw [a1]; unfold jLn
  by_cases e : c = b
  · rw [if_pos e, if_pos e, e]; unfold jmx; rw [if_neg (by omega)]
  · rw [if_neg e, if_neg e]
/-- a node's whom, as it stands behind bestOf -/
def jqGr (σ u : Nat → Nat → Int32) (a : Int32) (f : Int) : Prop := jLd (u 27) (u 28) (σ 3) (σ 4) (σ 5) f 64 ∧ jqSr u u 17 0 0 ∧ jKg u ∧ jFm a ∧ u 31 9 = a ∧ ((u 31 12).toInt ≠ 0 ↔ (u 22 1).toBitVec.getLsbD 5 = true) ∧ jDep (jGb u) (u 22 1) ∧ (u 31 10).toInt = 0 ∧ (u 31 11).toInt = (σ 16 1).toInt ∧ jGb u = jGb σ ∧ u 17 = σ 17 ∧ u 16 0 = σ 16 0 ∧ u 16 2 = σ 16 2
theorem jqGr.who {σ u : Nat → Nat → Int32} {a x : Int32} {f o r : Int} {v : Int32} (h : jqGr σ u a f) (re : jqRe u o x) (nd : jqNd u o x r) (o0 : 0 ≤ o) (oT : o < (σ 16 1).toInt) (hv : 0 ≤ r → r < (u 31 8).toInt → v = u 35 (9 * r + 0).toNat) (N1 : 1 ≤ (σ 16 0).toInt) (N8 : (σ 16 0).toInt ≤ 8) (s3 : ∀ z : Nat, z < 8 → 0 ≤ (σ 17 z).toInt ∧ (σ 17 z).toInt ≤ 3) : v.toInt = jcK σ f (jla x) (jlf x) (jst x) o := by
  obtain ⟨ld, sr, kg, fm, e9, hx, dep, s0, lv, g, e17, e160, e162⟩ := h
  obtain ⟨j, T, jn, no, tf, k⟩ := re.v sr dep hx o0 (by omega) (by omega)
  have er := nd j T jn no tf (by omega)
  have z := k 0 (by omega) (by omega) (by rw [e160]; omega)
  rw [hv (by omega) (by omega), er]
  have z1 := congrArg Prod.fst z
  have z1 : (u 35 (9 * (j : Int) + 0).toNat).toInt = _ := z1
  rw [z1, s0, show 0 + o = o by omega]
  exact congrArg Prod.fst (jLd.v ld g e17 e160 e162 (fun y hy => s3 y (by omega)) (fun c hc => ⟨jlf_r x c hc, jst_r x c hc⟩) o0 (by omega) (by omega))
theorem jcK_end {σ : Nat → Nat → Int32} {f o : Int} {x : Int32} (e : ¬ (0 < (σ 16 0).toInt ∧ o < (σ 16 1).toInt ∧ ∃ b : Int32, jMb x b)) : jcK σ f (jla x) (jlf x) (jst x) o < 0 := by
  have e2 : ¬ (0 < (σ 16 0).toInt ∧ o < (σ 16 1).toInt ∧ ∃ c : Nat, c < 4 ∧ (c : Int) ≠ jla x ∧ 0 < jlf x c) := fun ⟨h1, h2, c, hc, h3, h4⟩ => e ⟨h1, h2, Int32.ofNat c, by
    have k := jofn4 hc
    refine ⟨⟨by omega, by omega⟩, h4, ?_⟩
    unfold jla at h3; omega⟩
  unfold jcK
  rw [jcF_end e2]; decide
theorem jcK_on {σ : Nat → Nat → Int32} {f o : Int} {x b : Int32} (h1 : 0 < (σ 16 0).toInt) (h2 : o < (σ 16 1).toInt) (mb : jMb x b) : 0 ≤ jcK σ f (jla x) (jlf x) (jst x) o := by
  unfold jcK jcF
  obtain ⟨k, hk⟩ : ∃ k : Nat, ((σ 16 1).toInt - o).toNat = k + 1 := ⟨((σ 16 1).toInt - o).toNat - 1, by omega⟩
  rw [hk, jV, if_neg (by omega)]
  obtain ⟨⟨b0, b3⟩, m1, m2⟩ := mb
  have eb : b = Int32.ofNat b.toInt.toNat := jofn4_eq (by omega) (by omega)
  refine jPk_some (b := b.toInt.toNat) (by omega) ?_
  unfold jMy4
  refine decide_eq_true ⟨?_, ?_⟩
  · unfold jla; omega
  · unfold jlf; rw [← eb]; exact m1
/-- the walk of kept, in the class -/
def jqWk (σ u : Nat → Nat → Int32) (f b o : Int) (x : Int32) (R0 : Int) : Prop := R0 = jKp (jcK σ f) b ((σ 16 1).toInt - o).toNat (jla x) (jlf x) (jst x) o ∧ jqRe u o x
theorem jqWk.step {σ u : Nat → Nat → Int32} {f b o o' R0 : Int} {a x x' w : Int32} (h : jqWk σ u f b o x R0) (gr : jqGr σ u a f) (hw : w.toInt = jcK σ f (jla x) (jlf x) (jst x) o) (wb : w.toInt ≠ b) (e : ∃ b : Int32, jMb x b) (h1 : 0 < (σ 16 0).toInt) (h2 : o < (σ 16 1).toInt) (g : 0 ≤ w.toInt → w.toInt ≤ 3 → jAg x w.toInt.toNat x') (ho : o' = o + 1) (o0 : 0 ≤ o) : (o' < (σ 16 1).toInt → jqWk σ u f b o' x' R0) ∧ R0 = jKp (jcK σ f) b ((σ 16 1).toInt - o').toNat (jla x') (jlf x') (jst x') o' := by
  obtain ⟨m, mb⟩ := e
  have w0 := jcK_on (f := f) h1 h2 mb
  obtain ⟨c, c4, ec, cl, lc⟩ := jcK_F.2 _ _ _ _ w0
  have wc : w.toInt.toNat = c := by omega
  have g2 := g (by omega) (by omega)
  rw [wc] at g2
  have ln := g2.ln lc c4
  have q : R0 = jKp (jcK σ f) b ((σ 16 1).toInt - o').toNat (jla x') (jlf x') (jst x') o' := by
    rw [h.1]
    exact jKp.on jcK_F hw.symm (by omega) wb ho h2 (by rw [ln.1]; omega) (fun y hy => by rw [wc]; exact ln.2 y hy)
  refine ⟨fun z => ⟨q, ?_⟩, q⟩
  obtain ⟨_, _, kg, fm, e9, _, _, _, lv, _⟩ := gr
  rw [ho]
  exact h.2.next kg fm e9 (by omega) c4 ⟨cl, lc⟩ g2
/-- an answer of kept -/
def jqKe (r : Int) (ok : Prop) (T R0 : Int) : Prop := (¬ ok ∧ r = -1) ∨ (ok ∧ ((8 < T ∧ r = -4) ∨ (T ≤ 8 ∧ r = R0)))
theorem jqKe.same {r r' T R0 R1 : Int} {ok : Prop} (h : jqKe r ok T R0) (h' : jqKe r' ok T R1) (e : ok → T ≤ 8 → R0 = R1) : r = r' := by
  rcases h with ⟨a, b⟩ | ⟨a, b⟩ <;> rcases h' with ⟨a', b'⟩ | ⟨a', b'⟩
  · omega
  · exact absurd a' a
  · exact absurd a a'
  · rcases b with ⟨b, c⟩ | ⟨b, c⟩ <;> rcases b' with ⟨b', c'⟩ | ⟨b', c'⟩
    · omega
    · omega
    · omega
    · rw [c, c']; exact e a b
theorem jrP.goes2 {σ σ' : Nat → Nat → Int32} {b : Int32} (q : jrEq σ σ') (h : jrP σ) (mb : jmb σ b = 1) (b0 : 0 ≤ b.toInt) (b1 : b.toInt < (σ 55 6).toInt) (e69 : σ' 69 = jupd (σ 69) b.toNatClampNeg (σ 69 b.toNatClampNeg + 1)) (e68 : ∀ c : Nat, (c : Int) < (σ 55 6).toInt → jrS σ' c = jSn (jrS σ) b.toInt.toNat c) (d12 : (σ 55 26).toInt < 12) : ∀ c : Nat, c < 4 → jrLf σ' c = jLn (jrLf σ) b.toInt.toNat c ∧ 0 ≤ jrLf σ' c ∧ (0 < jrLf σ' c → jrS σ' c = jSn (jrS σ) b.toInt.toNat c) := by
  have ov := q.ov
  have n6 : σ' 55 6 = σ 55 6 := q.2.1
  have mm := (h.mb b0 (by have := h.2.1; omega) (by omega)).mp mb
  have h4 := h.2.1
  have hb := h.1 b.toInt.toNat (by omega)
  have w1 : ∀ c : Nat, c < 4 → jrW σ' c = if c = b.toInt.toNat then jrW σ c + 1 else jrW σ c := fun c hc => by
    unfold jrW; rw [e69, jnc (rfl : b.toInt = b.toInt)]
    by_cases e : c = b.toInt.toNat
    · rw [if_pos e, e, jqup_eq]
      have z := hb.2.1
      unfold jrW at z
      exact jadd (x := σ 69 b.toInt.toNat + 1) rfl rfl (show (1 : Int32).toInt = 1 by decide) (by omega) (by omega)
    · rw [if_neg e, jqup_ne e]
  intro c hc
  have lf' : jrLf σ' c = jLn (jrLf σ) b.toInt.toNat c := by
    unfold jrLf jLn jqLr
    rw [ov, w1 c hc, n6]
    by_cases e : c = b.toInt.toNat
    · rw [if_pos e, if_pos e, ← e, if_pos (by omega), if_pos (by omega)]
      rw [← e] at mm
      unfold jmx; split <;> split <;> omega
    · rw [if_neg e, if_neg e]
  refine ⟨lf', jqLr_0 c, fun z => ?_⟩
  by_cases e : (c : Int) < (σ 55 6).toInt
  · exact e68 c e
  · unfold jrLf jqLr at z; rw [if_neg (by rw [n6]; exact e)] at z; omega
theorem jrK_v {σ v : Nat → Nat → Int32} {f : Int} (fv : jrF v = jrFf σ f) (o0 : (v 55 25).toInt = 0) : (jrV v).1 = jrK σ f (v 55 27).toInt (jrLf v) (jrS v) (v 55 26).toInt := by
  unfold jrV jrK; rw [fv, o0]
theorem jqRk_step {σ v s1 s2 : Nat → Nat → Int32} {f b T R0 : Int} {w : Int32} (h : R0 = jKp (jrK σ f) b (T - (v 55 26).toInt).toNat (v 55 27).toInt (jrLf v) (jrS v) (v 55 26).toInt) (pv : jrP v) (q1 : jrEq v s1) (a68 : s1 68 = v 68) (a69 : s1 69 = v 69) (a25 : s1 55 25 = v 55 25) (a26 : s1 55 26 = v 55 26) (a27 : s1 55 27 = v 55 27) (fv : jrF v = jrFf σ f) (out0 : (v 55 25).toInt = 0) (hw : w.toInt = if (jrV v).1 < 0 then -2 else (jrV v).1) (w0 : 0 ≤ w.toInt) (wb : w.toInt ≠ b) (q2 : jrEq s1 s2) (e69 : s2 69 = jupd (s1 69) w.toNatClampNeg (s1 69 w.toNatClampNeg + 1)) (e68 : ∀ c : Nat, (c : Int) < (s1 55 6).toInt → jrS s2 c = jSn (jrS s1) w.toInt.toNat c) (f68 : ∀ k : Nat, (s1 55 6).toInt ≤ k → s2 68 k = s1 68 k) (eL : (s2 55 27).toInt = w.toInt) (eD : (s2 55 26).toInt = (s1 55 26).toInt + 1) (d12 : (v 55 26).toInt < 12) (eO : (s2 55 25).toInt = 0) (dT : (v 55 26).toInt < T) :
    R0 = jKp (jrK σ f) b (T - (s2 55 26).toInt).toNat (s2 55 27).toInt (jrLf s2) (jrS s2) (s2 55 26).toInt ∧ jrP s2 := by
  have ch := q1.ch a68 a69 a25 a26
  have p1 := (q1.v a68 a69 a25 a26 a27).2 pv
  have kv := jrK_v fv out0
  have hk : (jrV v).1 = w.toInt := by
    by_cases z : (jrV v).1 < 0
    · rw [if_pos z] at hw; omega
    · rw [if_neg z] at hw; omega
  have k0 : 0 ≤ jrK σ f (v 55 27).toInt (jrLf v) (jrS v) (v 55 26).toInt := by rw [← kv, hk]; exact w0
  obtain ⟨c, c4, ec, cl, lc⟩ := jrK_F.2 _ _ _ _ k0
  have wc : w.toInt = (c : Int) := by omega
  have cn : (c : Int) < (v 55 6).toInt := Int.not_le.mp (fun z => by unfold jrLf jqLr at lc; rw [if_neg (by omega)] at lc; omega)
  have n6 : s1 55 6 = v 55 6 := q1.2.1
  have mb : jmb s1 w = 1 := by
    refine (p1.my (by omega) (by rw [n6]; omega) (by rw [a26]; omega)).mpr ?_
    unfold jMy4
    rw [ch.2.2.2, a27, show w.toInt.toNat = c by omega]
    exact decide_eq_true ⟨cl, lc⟩
  have g := jrP.goes (σ := s1) (σ' := s2) q2 p1 mb (by omega) (by rw [n6]; omega) e69 e68 f68 eL eD (by rw [a26]; exact d12) 0 eO
  have l := jrP.goes2 (σ := s1) (σ' := s2) q2 p1 mb (by omega) (by rw [n6]; omega) e69 e68 (by rw [a26]; exact d12)
  refine ⟨?_, g.1⟩
  rw [h]
  exact jKp.on jrK_F (by rw [← kv, hk]) (by omega) wb (by rw [eD, a26]) dT eL (fun y hy => by
    have z := l y hy
    rw [ch.2.2.2, ch.2.2.1] at z; exact z)
theorem jrNow2 {σ u : Nat → Nat → Int32} (b1 : u 55 6 = σ 55 6) (b3 : u 55 10 = σ 55 10) (b4 : u 55 12 = σ 55 12) (z68 : jZr (u 68) 4) (z69 : jZr (u 69) 4) (e26 : (u 55 26).toInt = 0) (h4 : (σ 55 6).toInt ≤ 4) (h12 : (σ 55 12).toInt ≤ 8) (h8 : (σ 55 10).toInt ≤ 8) (ok : jOk (σ 56)) (a1 : u 56 = σ 56) (w : (u 55 30).toInt = -1) (o : (u 55 31).toInt = -1) : jrP u ∧ ∀ c : Nat, c < 4 → jrLf u c = jqLo (σ 56) (σ 55 6).toInt (-1) 0 c ∧ 0 ≤ jrLf u c ∧ jrS u c = 0 := by
  have e1 : ∀ c : Nat, c < 4 → jrS u c = 0 := fun c hc => by unfold jrS; rw [z68 c (by omega)]; decide
  have e2 : ∀ c : Nat, c < 4 → jrW u c = 0 := fun c hc => by unfold jrW; rw [z69 c (by omega)]; decide
  have ov := jrOv_0 w o
  refine ⟨⟨fun c hc => ?_, by rw [b1]; exact h4, by rw [b4]; omega, by rw [b3]; exact h8⟩, fun c hc => ⟨?_, jqLr_0 c, e1 c hc⟩⟩
  · have a := ok c hc
    rw [e1 c hc, e2 c hc, e26, ov c hc, if_neg (by omega), a1]
    exact ⟨by omega, by omega, by omega, Or.inl a.2⟩
  · have a := ok c hc
    unfold jrLf jqLr jqLo
    have o1 : jrOv u c = (σ 56 (32 + c)).toInt := by rw [ov c hc, if_neg (by omega), a1]
    rw [b1, e2 c hc, o1, if_neg (show ¬ (c : Int) = -1 by omega)]
    by_cases z : (c : Int) < (σ 55 6).toInt
    · rw [if_pos z, if_pos z]; unfold jmx; rw [if_neg (by omega), if_neg (by omega)]; omega
    · rw [if_neg z, if_neg z]
theorem jqSm.k {σ : Nat → Nat → Int32} (h : jqSm σ) {f b : Int} (f0 : 0 ≤ f) (f3 : f ≤ 3) (k : Nat) : jKp (jcK σ f) b k (-1) (jqLo (σ 3) (σ 55 6).toInt (-1) 0) (fun _ => 0) 0 = jKp (jrK σ f) b k (-1) (jqLo (σ 56) (σ 55 6).toInt (-1) 0) (fun _ => 0) 0 := by
  have num := h.2.1
  have ok := h.2.2.2.2.2.2
  have e : ∀ c : Nat, c < 4 → jqLo (σ 3) (σ 55 6).toInt (-1) 0 c = jqLo (σ 56) (σ 55 6).toInt (-1) 0 c := fun c hc => by
    unfold jqLo; rw [num (32 + c) (by omega) (Or.inr (by omega))]
  have r : ∀ c : Nat, c < 4 → (0 ≤ jqLo (σ 56) (σ 55 6).toInt (-1) 0 c ∧ jqLo (σ 56) (σ 55 6).toInt (-1) 0 c ≤ 15) ∧ ((σ 55 6).toInt ≤ (c : Int) → jqLo (σ 56) (σ 55 6).toInt (-1) 0 c = 0) := fun c hc => by
    have a := ok c hc
    unfold jqLo
    rw [if_neg (show ¬ (c : Int) = -1 by omega)]
    refine ⟨?_, fun z => by rw [if_neg (by omega)]⟩
    split
    · unfold jmx; split <;> omega
    · omega
  rw [jKp.cong jcK_F k (-1) (jqLo (σ 3) (σ 55 6).toInt (-1) 0) (jqLo (σ 56) (σ 55 6).toInt (-1) 0) (fun _ => 0) (fun _ => 0) 0 (fun c hc => ⟨by rw [e c hc]; exact (r c hc).1.1, e c hc, fun _ => rfl⟩)]
  refine jKp.same (B := (σ 55 6).toInt) jcK_F (fun L lf st d hl d0 => ?_) k _ _ _ _ (fun c hc => ⟨(r c hc).1, ⟨by decide, by decide⟩, (r c hc).2⟩) (by decide)
  exact congrArg Prod.fst (h.v f0 f3 (fun c hc => ⟨rfl, (hl c hc).1, (hl c hc).2.2⟩) (fun c hc => ⟨fun _ => rfl, (hl c hc).2.1.1, (hl c hc).2.1.2⟩) d0 (by decide))
/-! who is put on -/
def jDl (R : Int) : Int := if R < 10 then 1 else if R < 100 then 2 else if R < 1000 then 3 else if R < 10000 then 4 else if R < 100000 then 5 else if R < 1000000 then 6 else if R < 10000000 then 7 else 8
def jTd (R p : Int) : Int := if R ≤ 0 then -1 else R / 10 ^ (jDl R - 1 - p % jDl R).toNat % 10 - 1
def jqLc (R len r : Int) : Prop := r = R / 10 ^ len.toNat ∧ (1 ≤ len → 10 ^ (len - 1).toNat ≤ R)
theorem jpow10 (n : Nat) : (0 : Int) < 10 ^ n := Int.pow_pos (by decide)
theorem jdiv10 {R r r' : Int} {a b : Nat} (h : r = R / 10 ^ a) (e : r' = r / 10) (hb : b = a + 1) : r' = R / 10 ^ b := by
  subst hb
  rw [e, h, Int.pow_succ, Int.ediv_ediv_of_nonneg (Int.le_of_lt (jpow10 a))]
theorem jqLc.first {R len r : Int} (hl : len = 0) (hr : r = R) : jqLc R len r := by
  subst hl hr
  exact ⟨by show r = r / 10 ^ 0; simp, fun z => absurd z (by decide)⟩
theorem jqLc.step {R len r len' r' : Int} (h : jqLc R len r) (l0 : 0 ≤ len) (r0 : 0 < r) (hl : len' = len + 1) (hr : r' = r / 10) : jqLc R len' r' := by
  refine ⟨jdiv10 h.1 hr (by omega), fun _ => ?_⟩
  rw [show (len' - 1).toNat = len.toNat by omega]
  have q : 1 ≤ R / 10 ^ len.toNat := by rw [← h.1]; omega
  have := (Int.le_ediv_iff_mul_le (jpow10 len.toNat)).mp q
  omega
theorem jqLc.dl {R len r : Int} (h : jqLc R len r) (l1 : 1 ≤ len) (l8 : len ≤ 8) (e : r ≤ 0 ∨ len = 8) : jDl R = len := by
  have a := h.2 l1
  have b : len = 8 ∨ R < 10 ^ len.toNat := by
    rcases e with e | e
    · right
      rw [h.1] at e
      exact Int.not_le.mp (fun z => by
        have := (Int.le_ediv_iff_mul_le (jpow10 len.toNat) (a := 1) (b := R)).mpr (by omega)
        omega)
    · exact Or.inl e
  have h9 : len = 1 ∨ len = 2 ∨ len = 3 ∨ len = 4 ∨ len = 5 ∨ len = 6 ∨ len = 7 ∨ len = 8 := by omega
  unfold jDl
  rcases h9 with rfl | rfl | rfl | rfl | rfl | rfl | rfl | rfl <;> simp at a b <;> (repeat' split) <;> omega
theorem jTd.of {R p n v x : Int} {j : Nat} (hn : jDl R = n) (R0 : 0 < R) (hj : (n - 1 - p % n).toNat = j) (hx : x = R / 10 ^ j) (hv : v = x % 10 - 1) : v = jTd R p := by
  unfold jTd; rw [if_neg (by omega), hn, hj, hv, hx]
theorem jTd.no {R p : Int} (h : R ≤ 0) : jTd R p = -1 := by unfold jTd; rw [if_pos h]
theorem jqLc.zero {R len r : Int} (h : jqLc R len r) (l0 : len = 0) (e : r ≤ 0) (R0 : 0 < R) : False := by
  have a := h.1
  rw [l0] at a
  have a : r = R / 10 ^ 0 := a
  simp at a; omega
def jFi (m : Nat → Bool) : Int := if m 0 = true then 0 else if m 1 = true then 1 else if m 2 = true then 2 else if m 3 = true then 3 else -1
theorem jFi_of {m : Nat → Bool} {r : Int} (h0 : -1 ≤ r) (h3 : r ≤ 3) (h1 : 0 ≤ r → m r.toNat = true) (h2 : ∀ c : Nat, c < 4 → m c = true → 0 ≤ r ∧ r ≤ (c : Int)) : r = jFi m := by
  unfold jFi
  have a0 := h2 0 (by decide); have a1 := h2 1 (by decide); have a2 := h2 2 (by decide); have a3 := h2 3 (by decide)
  have h9 : r = -1 ∨ r = 0 ∨ r = 1 ∨ r = 2 ∨ r = 3 := by omega
  rcases h9 with rfl | rfl | rfl | rfl | rfl
  · rw [if_neg (fun z => by have := a0 z; omega), if_neg (fun z => by have := a1 z; omega), if_neg (fun z => by have := a2 z; omega), if_neg (fun z => by have := a3 z; omega)]
  · rw [if_pos (show m 0 = true from h1 (by decide))]
  · rw [if_neg (fun z => by have := a0 z; omega), if_pos (show m 1 = true from h1 (by decide))]
  · rw [if_neg (fun z => by have := a0 z; omega), if_neg (fun z => by have := a1 z; omega), if_pos (show m 2 = true from h1 (by decide))]
  · rw [if_neg (fun z => by have := a0 z; omega), if_neg (fun z => by have := a1 z; omega), if_neg (fun z => by have := a2 z; omega), if_pos (show m 3 = true from h1 (by decide))]
theorem jFi_eq {m m' : Nat → Bool} (h : ∀ c : Nat, c < 4 → m c = m' c) : jFi m = jFi m' := by
  unfold jFi; rw [h 0 (by decide), h 1 (by decide), h 2 (by decide), h 3 (by decide)]
theorem jFi_r (m : Nat → Bool) : (-1 ≤ jFi m ∧ jFi m ≤ 3) ∧ (0 ≤ jFi m → m (jFi m).toNat = true) := by
  unfold jFi
  by_cases a : m 0 = true
  · rw [if_pos a]; exact ⟨⟨by decide, by decide⟩, fun _ => a⟩
  rw [if_neg a]
  by_cases b : m 1 = true
  · rw [if_pos b]; exact ⟨⟨by decide, by decide⟩, fun _ => b⟩
  rw [if_neg b]
  by_cases c : m 2 = true
  · rw [if_pos c]; exact ⟨⟨by decide, by decide⟩, fun _ => c⟩
  rw [if_neg c]
  by_cases d : m 3 = true
  · rw [if_pos d]; exact ⟨⟨by decide, by decide⟩, fun _ => d⟩
  rw [if_neg d]; exact ⟨⟨by decide, by decide⟩, fun z => absurd z (by decide)⟩
def jAm (A : Int32) : Nat → Bool := jMy4 (jla A) (jlf A)
theorem jAm_mb {A b : Int32} (b0 : 0 ≤ b.toInt) (b3 : b.toInt ≤ 3) : jMb A b ↔ jAm A b.toInt.toNat = true := by
  rw [← jqMy_iff b0 b3]; unfold jAm; exact jMy4_iff.symm
theorem jFi_first {a r : Int32} (h0 : -1 ≤ r.toInt) (h3 : r.toInt ≤ 3) (hm : 0 ≤ r.toInt → jMb a r) (hl : ∀ b : Int32, jMb a b → 0 ≤ r.toInt ∧ r.toInt ≤ b.toInt) : r.toInt = jFi (jAm a) := by
  refine jFi_of h0 h3 (fun z => (jAm_mb z h3).mp (hm z)) (fun c hc m => ?_)
  have k := jofn4 hc
  have w := hl (Int32.ofNat c) ((jAm_mb (by omega) (by omega)).mpr (by rw [k.2.2]; exact m))
  omega
def jTu (m : Nat → Bool) (x : Int) : Int := if 0 ≤ x ∧ x ≤ 3 ∧ m x.toNat = true then x else jFi m
theorem jTu_eq {m m' : Nat → Bool} {x : Int} (h : ∀ c : Nat, c < 4 → m c = m' c) : jTu m x = jTu m' x := by
  unfold jTu
  rw [jFi_eq h]
  by_cases c : 0 ≤ x ∧ x ≤ 3
  · rw [h x.toNat (by omega)]
  · rw [if_neg (fun z => c ⟨z.1, z.2.1⟩), if_neg (fun z => c ⟨z.1, z.2.1⟩)]
theorem jTu_yes {m : Nat → Bool} {x v : Int} (h : 0 ≤ x ∧ x ≤ 3) (hm : m x.toNat = true) (hv : v = x) : v = jTu m x := by unfold jTu; rw [if_pos ⟨h.1, h.2, hm⟩, hv]
theorem jTu_no {m : Nat → Bool} {x v : Int} (h : 0 ≤ x → x ≤ 3 → m x.toNat ≠ true) (hv : v = jFi m) : v = jTu m x := by unfold jTu; rw [if_neg (fun z => h z.1 z.2.1 z.2.2), hv]
def jBu (m : Nat → Bool) (x : Int) : Nat → Bool := fun c => m c && decide ((c : Int) ≠ x)
def jKm (m : Nat → Bool) (x d k : Int) : Nat → Bool := if 0 ≤ x ∧ d < k ∧ 0 ≤ jFi (jBu m x) then jBu m x else m
theorem jAm_wl {a s b x : Int32} (e : s = jWl a b x) (b0 : 0 ≤ b.toInt) (b3 : b.toInt ≤ 3) (x0 : x.toInt = 0) : ∀ c : Nat, c < 4 → jAm s c = jBu (jAm a) b.toInt c := by
  intro c hc
  unfold jAm jBu jMy4
  rw [e, jla_Wl b0 b3, jlf_Wl b0 b3 (by omega) (by omega) c hc]
  by_cases z : (c : Int) = b.toInt
  · rw [if_pos z, x0, decide_eq_false (fun w => absurd w.2 (by decide))]
    simp [z]
  · rw [if_neg z]; simp [z]
theorem jKm_no {m : Nat → Bool} {x d k : Int} (h : x < 0 ∨ k ≤ d ∨ jFi (jBu m x) < 0) : jKm m x d k = m := by unfold jKm; rw [if_neg (by omega)]
theorem jKm_yes {m : Nat → Bool} {x d k : Int} (h : 0 ≤ x) (h2 : d < k) (h3 : 0 ≤ jFi (jBu m x)) : jKm m x d k = jBu m x := by unfold jKm; rw [if_pos ⟨h, h2, h3⟩]
def jqRm (σ : Nat → Nat → Int32) : Nat → Bool := fun c => decide ((c : Int) < (σ 55 6).toInt ∧ jmb σ (Int32.ofNat c) = 1)
theorem jqRm_yes {σ : Nat → Nat → Int32} {b : Int32} (h : jmb σ b = 1) (b0 : 0 ≤ b.toInt) (b3 : b.toInt ≤ 3) (hb : b.toInt < (σ 55 6).toInt) : jqRm σ b.toInt.toNat = true := by
  unfold jqRm
  rw [← jofn4_eq (c := b.toInt.toNat) (b := b) (by omega) (by omega)]
  exact decide_eq_true ⟨by omega, h⟩
theorem jqRm_no {σ : Nat → Nat → Int32} {b : Int32} (h : jmb σ b = 0) (b0 : 0 ≤ b.toInt) (b3 : b.toInt ≤ 3) : jqRm σ b.toInt.toNat ≠ true := by
  unfold jqRm
  rw [← jofn4_eq (c := b.toInt.toNat) (b := b) (by omega) (by omega), h]
  exact fun z => absurd (of_decide_eq_true z).2 (by decide)
theorem jqRm_lt {σ : Nat → Nat → Int32} {c : Nat} (h : jqRm σ c = true) : (c : Int) < (σ 55 6).toInt := (of_decide_eq_true h).1
theorem jBu_t {m : Nat → Bool} {x : Int} {c : Nat} : jBu m x c = true ↔ (m c = true ∧ (c : Int) ≠ x) := by
  unfold jBu; rw [Bool.and_eq_true, decide_eq_true_iff]
/-- nobody of the first n -/
def jNn (m : Nat → Bool) (n : Int) : Prop := ∀ c : Nat, (c : Int) < n → m c ≠ true
theorem jNn.first {m : Nat → Bool} {n : Int} (h : n ≤ 0) : jNn m n := fun c hc => absurd hc (by omega)
theorem jNn.step {m : Nat → Bool} {n n' : Int} (h : jNn m n) (n0 : 0 ≤ n) (hm : m n.toNat ≠ true) (e : n' = n + 1) : jNn m n' := fun c hc => by
  by_cases z : (c : Int) < n
  · exact h c z
  · rw [show c = n.toNat by omega]; exact hm
theorem jNn.got {m : Nat → Bool} {n r : Int} (h : jNn m n) (n0 : 0 ≤ n) (n3 : n ≤ 3) (hm : m n.toNat = true) (e : r = n) : r = jFi m := by
  subst e
  exact jFi_of (by omega) n3 (fun _ => hm) (fun c _ mc => ⟨n0, Int.not_lt.mp (fun z => h c z mc)⟩)
theorem jNn.none {m : Nat → Bool} {n r : Int} (h : jNn m n) (hl : ∀ c : Nat, c < 4 → m c = true → (c : Int) < n) (e : r = -1) : r = jFi m := by
  subst e
  exact jFi_of (by decide) (by decide) (fun z => absurd z (by decide)) (fun c hc mc => absurd mc (h c (hl c hc mc)))
def jqRd (σ : Nat → Nat → Int32) (r p : Int) : Int := if (σ 71 r.toNat).toInt = 0 then -1 else (σ 72 (8 * r + p % (σ 71 r.toNat).toInt).toNat).toInt
/-! names told: only eight count -/
theorem jand7 (x : Int32) : (x &&& 7).toNatClampNeg < 8 := by
  have e := jandm (x := x) (y := x &&& 7) (m := 7) (k := 3) (M := 8) rfl rfl rfl (by decide)
  show (x &&& 7).toInt.toNat < 8
  omega
theorem jWk_8 {cd nm nm' : Nat → Int32} {len : Int} (h : ∀ j : Nat, j < 8 → nm j = nm' j) : ∀ (k : Nat) (a : Int) (s : List Int32), jWk cd len nm k a s = jWk cd len nm' k a s
  | 0, _, _ => rfl
  | k + 1, a, s => by
    rw [jWk, jWk]
    simp only [jWk_8 h k, h _ (jand7 _)]
theorem jGc_8 {cd nm nm' : Nat → Int32} {len : Int} (h : ∀ j : Nat, j < 8 → nm j = nm' j) : jGc cd len nm = jGc cd len nm' := by
  have e : jWr cd len nm = jWr cd len nm' := by
    funext a s v
    unfold jWr
    simp only [jWk_8 h]
  unfold jGc; rw [e]
/-- the greatest, the first of like ones -/
def jqGt (m : Nat → Bool) (g : Nat → Int) (n who most : Int) : Prop := jPk m (fun b => -(g b)) n.toNat = (who, -most)
theorem jqGt.first {m : Nat → Bool} {g : Nat → Int} {n who most : Int} (hn : n ≤ 0) (h1 : who = -1) (h2 : most = 0) : jqGt m g n who most := by
  subst h1 h2; unfold jqGt; rw [show n.toNat = 0 by omega]; rfl
theorem jqGt.skip {m : Nat → Bool} {g : Nat → Int} {n n' who most : Int} (h : jqGt m g n who most) (n0 : 0 ≤ n) (hm : m n.toNat ≠ true) (e : n' = n + 1) : jqGt m g n' who most := by
  subst e; unfold jqGt; rw [show (n + 1).toNat = n.toNat + 1 by omega, jPk, if_neg (fun z => hm z.1)]; exact h
theorem jqGt.take {m : Nat → Bool} {g : Nat → Int} {n n' who most who' most' v : Int} (h : jqGt m g n who most) (n0 : 0 ≤ n) (hm : m n.toNat = true) (hv : v = g n.toNat) (c : who < 0 ∨ most < v) (e1 : who' = n) (e2 : most' = v) (e : n' = n + 1) : jqGt m g n' who' most' := by
  subst e e1 e2; unfold jqGt at h ⊢
  rw [show (who' + 1).toNat = who'.toNat + 1 by omega, jPk, h, if_pos ⟨hm, by
    rcases c with c | c
    · exact Or.inl c
    · right; show -(g who'.toNat) < -most; omega⟩]
  exact Prod.ext (by show ((who'.toNat : Nat) : Int) = who'; omega) (by show -(g who'.toNat) = -most'; omega)
theorem jqGt.keep {m : Nat → Bool} {g : Nat → Int} {n n' who most v : Int} (h : jqGt m g n who most) (n0 : 0 ≤ n) (hv : v = g n.toNat) (c : ¬ (who < 0 ∨ most < v)) (e : n' = n + 1) : jqGt m g n' who most := by
  subst e; unfold jqGt at h ⊢
  rw [show (n + 1).toNat = n.toNat + 1 by omega, jPk, h, if_neg]
  rintro ⟨_, z⟩
  have z : who < 0 ∨ -(g n.toNat) < -most := z
  exact c (by omega)
/-- ratings, of chances as they are laid -/
noncomputable def jcRg (σ : Nat → Nat → Int32) (r : Int) (lf st : Nat → Int) (d w : Int) : Nat → Int := fun b =>
  if (σ 39 r.toNat).toInt = 3 then jChc σ b (σ 17 w.toNat).toInt (st b) (lf b) d w - 1000 * jRnc σ b (σ 17 w.toNat).toInt (st b)
  else if (σ 39 r.toNat).toInt = 5 then jChc σ b (σ 17 w.toNat).toInt (st b) (lf b) d w
  else (jGc (σ 19) (σ 18 0).toInt (jN8 (jwd d) (jwd w) (jwd (σ 17 w.toNat).toInt) (jwd (b : Int)) (jwd (st b)) (jwd (lf b)) (jwd (jChc σ b (σ 17 w.toNat).toInt (st b) (lf b) d w)) (σ 41 r.toNat))).toInt
theorem jcRg_eq {σ u : Nat → Nat → Int32} (e27 : u 27 = σ 27) (e28 : u 28 = σ 28) (e23 : u 23 = σ 23) (e22 : u 22 0 = σ 22 0) (e17 : u 17 = σ 17) (e19 : u 19 = σ 19) (e18 : u 18 0 = σ 18 0) (e39 : u 39 = σ 39) (e41 : u 41 = σ 41) : jcRg u = jcRg σ := by
  funext r lf st d w b
  unfold jcRg
  rw [jChc_eq e27 e23 e22, jRnc_eq e28, e17, e19, e18, e39, e41]
theorem jN8_to {g : Nat → Int32} {o w s b t l p k : Int32} (h0 : g 0 = o) (h1 : g 1 = w) (h2 : g 2 = s) (h3 : g 3 = b) (h4 : g 4 = t) (h5 : g 5 = l) (h6 : g 6 = p) (h7 : g 7 = k) {o' w' s' b' t' l' p' k' : Int32} (e0 : o = o') (e1 : w = w') (e2 : s = s') (e3 : b = b') (e4 : t = t') (e5 : l = l') (e6 : p = p') (e7 : k = k') : ∀ j : Nat, j < 8 → g j = jN8 o' w' s' b' t' l' p' k' j := by
  subst e0 e1 e2 e3 e4 e5 e6 e7; exact jN8_of h0 h1 h2 h3 h4 h5 h6 h7
/-! who is put on, by kinds -/
def jqPt (κ x0 x k d : Int) (m : Nat → Bool) (g : Nat → Int) (bw : Int) : Int := if κ = 1 then jTu m x else if κ = 2 then bw else if κ = 4 then jTu (jKm m x0 d k) x else if κ = 0 then jFi m else (jPk m (fun b => -(g b)) 4).1
theorem jqPt_1 {κ x0 x k d : Int} {m : Nat → Bool} {g : Nat → Int} {bw : Int} (h : κ = 1) : jqPt κ x0 x k d m g bw = jTu m x := by unfold jqPt; rw [if_pos h]
theorem jqPt_2 {κ x0 x k d : Int} {m : Nat → Bool} {g : Nat → Int} {bw : Int} (h : κ = 2) : jqPt κ x0 x k d m g bw = bw := by unfold jqPt; rw [if_neg (by omega), if_pos h]
theorem jqPt_4 {κ x0 x k d : Int} {m : Nat → Bool} {g : Nat → Int} {bw : Int} (h : κ = 4) : jqPt κ x0 x k d m g bw = jTu (jKm m x0 d k) x := by unfold jqPt; rw [if_neg (by omega), if_neg (by omega), if_pos h]
theorem jqPt_0 {κ x0 x k d : Int} {m : Nat → Bool} {g : Nat → Int} {bw : Int} (h : κ = 0) : jqPt κ x0 x k d m g bw = jFi m := by unfold jqPt; rw [if_neg (by omega), if_neg (by omega), if_neg (by omega), if_pos h]
theorem jqPt_g {κ x0 x k d : Int} {m : Nat → Bool} {g : Nat → Int} {bw : Int} (h : κ = 3 ∨ κ = 5 ∨ κ = 6) : jqPt κ x0 x k d m g bw = (jPk m (fun b => -(g b)) 4).1 := by unfold jqPt; rw [if_neg (by omega), if_neg (by omega), if_neg (by omega), if_neg (by omega)]
theorem jFi_may {m : Nat → Bool} (h : 0 ≤ jFi m) : 0 ≤ jFi m ∧ jFi m ≤ 3 ∧ m (jFi m).toNat = true := ⟨h, (jFi_r m).1.2, (jFi_r m).2 h⟩
theorem jFi_some {m : Nat → Bool} {c : Nat} (hc : c < 4) (h : m c = true) : 0 ≤ jFi m := by
  unfold jFi
  obtain rfl | rfl | rfl | rfl : c = 0 ∨ c = 1 ∨ c = 2 ∨ c = 3 := by omega
  all_goals (repeat' split) <;> first | decide | omega | (exfalso; simp_all)
theorem jTu_may {m : Nat → Bool} {x : Int} (h : 0 ≤ jFi m) : 0 ≤ jTu m x ∧ jTu m x ≤ 3 ∧ m (jTu m x).toNat = true := by
  unfold jTu
  by_cases c : 0 ≤ x ∧ x ≤ 3 ∧ m x.toNat = true
  · rw [if_pos c]; exact c
  · rw [if_neg c]; exact jFi_may h
theorem jKm_may {m : Nat → Bool} {x d k : Int} (h : 0 ≤ jFi m) : 0 ≤ jFi (jKm m x d k) ∧ ∀ c : Nat, jKm m x d k c = true → m c = true := by
  unfold jKm
  by_cases c : 0 ≤ x ∧ d < k ∧ 0 ≤ jFi (jBu m x)
  · rw [if_pos c]; exact ⟨c.2.2, fun b hb => (jBu_t.mp hb).1⟩
  · rw [if_neg c]; exact ⟨h, fun b hb => hb⟩
theorem jqPt_may {κ x0 x k d : Int} {m : Nat → Bool} {g : Nat → Int} {bw : Int} (h : 0 ≤ jFi m) (hb : κ = 2 → 0 ≤ bw ∧ bw ≤ 3 ∧ m bw.toNat = true) : 0 ≤ jqPt κ x0 x k d m g bw ∧ jqPt κ x0 x k d m g bw ≤ 3 ∧ m (jqPt κ x0 x k d m g bw).toNat = true := by
  unfold jqPt
  by_cases c1 : κ = 1
  · rw [if_pos c1]; exact jTu_may h
  rw [if_neg c1]
  by_cases c2 : κ = 2
  · rw [if_pos c2]; exact hb c2
  rw [if_neg c2]
  by_cases c4 : κ = 4
  · rw [if_pos c4]
    obtain ⟨a, b⟩ := jKm_may (x := x0) (d := d) (k := k) h
    obtain ⟨e1, e2, e3⟩ := jTu_may (x := x) a
    exact ⟨e1, e2, b _ e3⟩
  rw [if_neg c4]
  by_cases c0 : κ = 0
  · rw [if_pos c0]; exact jFi_may h
  rw [if_neg c0]
  obtain ⟨_, f3, fm⟩ := jFi_may h
  obtain ⟨b, b4, eb, mb⟩ := jPk_may (m := m) (v := fun b => -(g b)) (n := 4) (jPk_some (b := (jFi m).toNat) (by omega) fm)
  rw [eb]; exact ⟨by omega, by omega, by rw [show ((b : Nat) : Int).toNat = b by omega]; exact mb⟩
theorem jqPt_cong {κ x0 x k d : Int} {m m' : Nat → Bool} {g g' : Nat → Int} {bw bw' : Int} (hm : ∀ c : Nat, c < 4 → m c = m' c) (hg : (κ = 3 ∨ κ = 5 ∨ κ = 6 ∨ κ < 0 ∨ 6 < κ) → ∀ c : Nat, c < 4 → m c = true → g c = g' c) (hb : κ = 2 → bw = bw') : jqPt κ x0 x k d m g bw = jqPt κ x0 x k d m' g' bw' := by
  unfold jqPt
  by_cases c1 : κ = 1
  · rw [if_pos c1, if_pos c1]; exact jTu_eq hm
  rw [if_neg c1, if_neg c1]
  by_cases c2 : κ = 2
  · rw [if_pos c2, if_pos c2]; exact hb c2
  rw [if_neg c2, if_neg c2]
  by_cases c4 : κ = 4
  · rw [if_pos c4, if_pos c4]
    refine jTu_eq (fun c hc => ?_)
    have hu : ∀ c : Nat, c < 4 → jBu m x0 c = jBu m' x0 c := fun c hc => by unfold jBu; rw [hm c hc]
    unfold jKm
    rw [jFi_eq hu]
    split
    · exact hu c hc
    · exact hm c hc
  rw [if_neg c4, if_neg c4]
  by_cases c0 : κ = 0
  · rw [if_pos c0, if_pos c0]; exact jFi_eq hm
  rw [if_neg c0, if_neg c0]
  exact congrArg Prod.fst (jPk_eq hm (fun b hb mb => by rw [hg (by omega) b hb mb]))
theorem jqPt_x {κ x0 x x0' x' k d : Int} {m : Nat → Bool} {g : Nat → Int} {bw : Int} (h : κ = 1 ∨ κ = 4 → x = x' ∧ x0 = x0') : jqPt κ x0 x k d m g bw = jqPt κ x0' x' k d m g bw := by
  unfold jqPt
  by_cases c1 : κ = 1
  · rw [if_pos c1, if_pos c1, (h (Or.inl c1)).1]
  rw [if_neg c1, if_neg c1]
  by_cases c4 : κ = 4
  · rw [(h (Or.inr c4)).1, (h (Or.inr c4)).2]
  · rw [if_neg c4, if_neg c4]
/-- who may be picked -/
def jPP (P : Int → (Nat → Int) → (Nat → Int) → Int → Int → Int) (n T : Int) : Prop := (∀ (L : Int) (lf lf' st st' : Nat → Int) (d w : Int), jKq L lf lf' st st' → w < n → d < T → P L lf st d w = P L lf' st' d w) ∧ ∀ (L : Int) (lf st : Nat → Int) (d w : Int), w < n → d < T → 0 ≤ jFi (jMy4 L lf) → 0 ≤ P L lf st d w ∧ P L lf st d w ≤ 3 ∧ jMy4 L lf (P L lf st d w).toNat = true
theorem jKq.my {L : Int} {lf lf' st st' : Nat → Int} (h : jKq L lf lf' st st') : ∀ c : Nat, c < 4 → jMy4 L lf c = jMy4 L lf' c := fun c hc => by unfold jMy4; rw [(h c hc).2.1]
/-- the way on: mean and likely -/
def jU (P : Int → (Nat → Int) → (Nat → Int) → Int → Int → Int) (ch : Nat → Int → Int → Int → Int → Int → Int) (rn : Nat → Int → Int → Int) (so : Nat → Int) (n : Int) (E : Int → Int) (C : Int → Int → Int → Int → Int → Int) (S : Int → Int → Int) : Nat → Int → (Nat → Int) → (Nat → Int) → Int → Int → Int → Int
  | 0, _, _, _, _, _, x => E x
  | k + 1, L, lf, st, d, w, x => if n ≤ w ∨ jFi (jMy4 L lf) < 0 then E x else
      (fun b : Nat => C (S x (rn b (so w.toNat) (st b))) (rn b (so w.toNat) (st b)) (ch b (so w.toNat) (st b) (lf b) d w) (jU P ch rn so n E C S k (b : Int) (jLn lf b) (jSn st b) (d + 1) (w + 1) (S x (rn b (so w.toNat) (st b)))) (jU P ch rn so n E C S k (b : Int) (jLn lf b) (jSn st b) (d + 1) w (S x (rn b (so w.toNat) (st b))))) (P L lf st d w).toNat
theorem jU_end {P : Int → (Nat → Int) → (Nat → Int) → Int → Int → Int} {ch : Nat → Int → Int → Int → Int → Int → Int} {rn : Nat → Int → Int → Int} {so : Nat → Int} {n : Int} {E : Int → Int} {C : Int → Int → Int → Int → Int → Int} {S : Int → Int → Int} {k : Nat} {L : Int} {lf st : Nat → Int} {d w x : Int} (h : k = 0 ∨ n ≤ w ∨ jFi (jMy4 L lf) < 0) : jU P ch rn so n E C S k L lf st d w x = E x := by
  cases k with
  | zero => rfl
  | succ k => rw [jU, if_pos (by omega)]
theorem jU_eq {P : Int → (Nat → Int) → (Nat → Int) → Int → Int → Int} {ch : Nat → Int → Int → Int → Int → Int → Int} {rn : Nat → Int → Int → Int} {so : Nat → Int} {n T : Int} {E : Int → Int} {C : Int → Int → Int → Int → Int → Int} {S : Int → Int → Int} (hP : jPP P n T) :
    ∀ (k : Nat) (L : Int) (lf lf' st st' : Nat → Int) (d w x : Int), jKq L lf lf' st st' → d + (k : Int) ≤ T → jU P ch rn so n E C S k L lf st d w x = jU P ch rn so n E C S k L lf' st' d w x
  | 0, _, _, _, _, _, _, _, _, _, _ => rfl
  | k + 1, L, lf, lf', st, st', d, w, x, q, hT => by
    rw [jU, jU]
    have hm := jFi_eq q.my
    rw [← hm]
    by_cases c : n ≤ w ∨ jFi (jMy4 L lf) < 0
    · rw [if_pos c, if_pos c]
    rw [if_neg c, if_neg c, ← hP.1 L lf lf' st st' d w q (by omega) (by omega)]
    obtain ⟨b0, b3, mb⟩ := hP.2 L lf st d w (by omega) (by omega) (by omega)
    generalize hb : (P L lf st d w).toNat = b at mb ⊢
    have b4 : b < 4 := by omega
    have mb := of_decide_eq_true mb
    obtain ⟨q0, q1, q2⟩ := q b b4
    show C _ _ _ _ _ = C _ _ _ _ _
    rw [← q2 mb.2, ← q1, jU_eq hP k (b : Int) (jLn lf b) (jLn lf' b) (jSn st b) (jSn st' b) (d + 1) (w + 1) _ (q.next b4 mb.2) (by omega), jU_eq hP k (b : Int) (jLn lf b) (jLn lf' b) (jSn st b) (jSn st' b) (d + 1) w _ (q.next b4 mb.2) (by omega)]
/-- one over on, as it comes out of the two ways on -/
theorem jU_step {P : Int → (Nat → Int) → (Nat → Int) → Int → Int → Int} {ch : Nat → Int → Int → Int → Int → Int → Int} {rn : Nat → Int → Int → Int} {so : Nat → Int} {n T : Int} {E : Int → Int} {C : Int → Int → Int → Int → Int → Int} {S : Int → Int → Int} (hP : jPP P n T) {L d w x b : Int} {lf st lf1 st1 lf0 st0 : Nat → Int} {L1 L0 d1 d0 w1 w0 x1 x0 p q r c : Int} (dT : d < T) (wn : w < n) (hm : 0 ≤ jFi (jMy4 L lf)) (hb : b = P L lf st d w)
    (hr : r = rn b.toNat (so w.toNat) (st b.toNat)) (hc : c = ch b.toNat (so w.toNat) (st b.toNat) (lf b.toNat) d w)
    (hp : p = jU P ch rn so n E C S (T - d1).toNat L1 lf1 st1 d1 w1 x1) (hq : q = jU P ch rn so n E C S (T - d0).toNat L0 lf0 st0 d0 w0 x0)
    (e1 : L1 = b) (e2 : L0 = b) (e3 : d1 = d + 1) (e4 : d0 = d + 1) (e5 : w1 = w + 1) (e6 : w0 = w) (e7 : x1 = S x r) (e8 : x0 = S x r)
    (g1 : ∀ z : Nat, z < 4 → lf1 z = jLn lf b.toNat z ∧ 0 ≤ lf1 z ∧ (0 < lf1 z → st1 z = jSn st b.toNat z)) (g0 : ∀ z : Nat, z < 4 → lf0 z = jLn lf b.toNat z ∧ 0 ≤ lf0 z ∧ (0 < lf0 z → st0 z = jSn st b.toNat z)) :
    C (S x r) r c p q = jU P ch rn so n E C S (T - d).toNat L lf st d w x := by
  subst e1 e3 e4 e5 e6 e7 e8
  obtain ⟨b0, b3, mb⟩ := hP.2 L lf st d w0 wn dT hm
  rw [← hb] at b0 b3 mb
  rw [show (T - d).toNat = (T - (d + 1)).toNat + 1 by omega, jU, if_neg (by omega), ← hb]
  show _ = C _ _ _ _ _
  rw [← hr, ← hc, hp, hq, e2]
  rw [show ((L1.toNat : Nat) : Int) = L1 by omega]
  rw [jU_eq hP _ L1 lf1 (jLn lf L1.toNat) st1 (jSn st L1.toNat) _ _ _ (fun z hz => ⟨(g1 z hz).2.1, (g1 z hz).1, (g1 z hz).2.2⟩) (by omega), jU_eq hP _ L1 lf0 (jLn lf L1.toNat) st0 (jSn st L1.toNat) _ _ _ (fun z hz => ⟨(g0 z hz).2.1, (g0 z hz).1, (g0 z hz).2.2⟩) (by omega)]
def jLR (B : Int) (lf st : Nat → Int) : Prop := ∀ c : Nat, c < 4 → (0 ≤ lf c ∧ lf c ≤ 15) ∧ (0 ≤ st c ∧ st c ≤ 3) ∧ (B ≤ (c : Int) → lf c = 0)
theorem jLR.next {B : Int} {lf st : Nat → Int} {b : Nat} (h : jLR B lf st) (hb : b < 4) (m : 0 < lf b) : jLR B (jLn lf b) (jSn st b) := fun x hx => by
  obtain ⟨a1, a2, a3⟩ := h x hx
  obtain ⟨f1, f2, f3⟩ := h b hb
  unfold jLn jSn
  by_cases e : x = b
  · rw [if_pos e, if_pos e]; refine ⟨by omega, ?_, fun z => by subst e; have := a3 z; omega⟩; split <;> omega
  · rw [if_neg e, if_neg e]; refine ⟨by omega, ?_, a3⟩; split <;> omega
theorem jU_cong {P P' : Int → (Nat → Int) → (Nat → Int) → Int → Int → Int} {ch ch' : Nat → Int → Int → Int → Int → Int → Int} {rn rn' : Nat → Int → Int → Int} {so so' : Nat → Int} {n B T : Int} {E : Int → Int} {C : Int → Int → Int → Int → Int → Int} {S : Int → Int → Int} (hP : jPP P n T)
    (hs : ∀ z : Nat, (z : Int) < n → so z = so' z ∧ 0 ≤ so z ∧ so z ≤ 3)
    (hc : ∀ (b : Nat) (s t l o w : Int), b < 4 → (b : Int) < B → (0 ≤ s ∧ s ≤ 3) → (0 ≤ t ∧ t ≤ 3) → (0 ≤ l ∧ l ≤ 15) → (0 ≤ o ∧ o < T) → (0 ≤ w ∧ w < n) → ch b s t l o w = ch' b s t l o w) (hr : ∀ (b : Nat) (s t : Int), b < 4 → (b : Int) < B → (0 ≤ s ∧ s ≤ 3) → (0 ≤ t ∧ t ≤ 3) → rn b s t = rn' b s t)
    (hQ : ∀ (L : Int) (lf st : Nat → Int) (d w : Int), jLR B lf st → 0 ≤ d → d < T → 0 ≤ w → w < n → P L lf st d w = P' L lf st d w) :
    ∀ (k : Nat) (L : Int) (lf st : Nat → Int) (d w x : Int), jLR B lf st → 0 ≤ d → d + (k : Int) ≤ T → 0 ≤ w → jU P ch rn so n E C S k L lf st d w x = jU P' ch' rn' so' n E C S k L lf st d w x
  | 0, _, _, _, _, _, _, _, _, _, _ => rfl
  | k + 1, L, lf, st, d, w, x, lr, d0, hT, w0 => by
    rw [jU, jU]
    by_cases c : n ≤ w ∨ jFi (jMy4 L lf) < 0
    · rw [if_pos c, if_pos c]
    rw [if_neg c, if_neg c, ← hQ L lf st d w lr d0 (by omega) w0 (by omega)]
    obtain ⟨b0, b3, mb⟩ := hP.2 L lf st d w (by omega) (by omega) (by omega)
    generalize hb : (P L lf st d w).toNat = b at mb ⊢
    have b4 : b < 4 := by omega
    have mb := of_decide_eq_true mb
    obtain ⟨f1, f2, f3⟩ := lr b b4
    have bB : (b : Int) < B := Int.not_le.mp (fun z => by have := f3 z; omega)
    obtain ⟨s1, s2, s3⟩ := hs w.toNat (by omega)
    show C _ _ _ _ _ = C _ _ _ _ _
    rw [← s1, ← hc b _ _ _ _ _ b4 bB ⟨s2, s3⟩ f2 f1 ⟨d0, by omega⟩ ⟨w0, by omega⟩, ← hr b _ _ b4 bB ⟨s2, s3⟩ f2, jU_cong hP hs hc hr hQ k _ _ _ _ _ _ (lr.next b4 mb.2) (by omega) (by omega) (by omega), jU_cong hP hs hc hr hQ k _ _ _ _ _ _ (lr.next b4 mb.2) (by omega) (by omega) (by omega)]
/-! the class -/
noncomputable def jcP (u : Nat → Nat → Int32) (r : Int) : Int → (Nat → Int) → (Nat → Int) → Int → Int → Int := fun L lf st d w => jqPt (u 39 r.toNat).toInt (jTd (u 40 r.toNat).toInt 0) (jTd (u 40 r.toNat).toInt d) (u 41 r.toNat).toInt d (jMy4 L lf) (jcRg u r lf st d w) (jV (jChc u) (jRnc u) (fun y => (u 17 y).toInt) (u 16 0).toInt (u 16 2).toInt ((u 16 1).toInt - d).toNat L lf st d w).1
def jqGh (u : Nat → Nat → Int32) (w0 : Int) : Prop := jqSr u u 17 w0 0 ∧ jKg u ∧ jFm (u 31 9) ∧ ((u 31 12).toInt ≠ 0 ↔ (u 22 1).toBitVec.getLsbD 5 = true) ∧ jDep (jGb u) (u 22 1) ∧ (u 31 10).toInt + (u 31 11).toInt = (u 16 1).toInt
def jqGs (u : Nat → Nat → Int32) (a : Int32) (o w : Int) : Prop := ∃ w0 : Int, jqGh u w0 ∧ jqRe u (o - (u 31 10).toInt) a ∧ 0 ≤ w0 ∧ w0 ≤ w ∧ w ≤ w0 + 1 + (o - (u 31 10).toInt) ∧ (u 31 10).toInt ≤ o ∧ o < (u 16 1).toInt ∧ w < (u 16 0).toInt
theorem jqGs.who {u : Nat → Nat → Int32} {a : Int32} {o w r : Int} {v : Int32} (h : jqGs u a o w) (nd : jqNd u (o - (u 31 10).toInt) a r) (hv : 0 ≤ r → r < (u 31 8).toInt → 0 ≤ w → w < (u 16 0).toInt → v = u 35 (9 * r + w).toNat) : v.toInt = (jV (jChc u) (jRnc u) (fun y => (u 17 y).toInt) (u 16 0).toInt (u 16 2).toInt ((u 16 1).toInt - o).toNat (jla a) (jlf a) (jst a) o w).1 := by
  obtain ⟨w0, ⟨sr, kg, fm, hx, dep, lv⟩, re, z0, z1, z2, z3, z4, z5⟩ := h
  obtain ⟨j, T, jn, no, tf, k⟩ := re.v sr dep hx (by omega) (by omega) z0
  have er := nd j T jn no tf (by omega)
  have z := congrArg Prod.fst (k w z1 (by omega) z5)
  have z : (u 35 (9 * (j : Int) + w).toNat).toInt = _ := z
  rw [hv (by omega) (by omega) (by omega) z5, er, z, show (u 31 11).toInt - (o - (u 31 10).toInt) = (u 16 1).toInt - o by omega, show (u 31 10).toInt + (o - (u 31 10).toInt) = o by omega]
theorem jqGs.next {u : Nat → Nat → Int32} {a a2 : Int32} {o w o' w' : Int} {b : Nat} (h : jqGs u a o w) (hb : b < 4) (my : jqMy a b) (g2 : jAg a b a2) (eo : o' = o + 1) (h1 : o' < (u 16 1).toInt) (ew : w' = w ∨ w' = w + 1) (h2 : w' < (u 16 0).toInt) : jqGs u a2 o' w' := by
  obtain ⟨w0, gh, re, z0, z1, z2, z3, z4, z5⟩ := h
  have kg := gh.2.1; have fm := gh.2.2.1; have lv := gh.2.2.2.2.2
  refine ⟨w0, gh, ?_, z0, by omega, by omega, by omega, by omega, by omega⟩
  have q := re.next kg fm rfl (by omega) hb my g2
  rw [show o - (u 31 10).toInt + 1 = o' - (u 31 10).toInt by omega] at q
  exact q
theorem jcP_P {u : Nat → Nat → Int32} {r : Int} : jPP (jcP u r) (u 16 0).toInt (u 16 1).toInt := by
  refine ⟨fun L lf lf' st st' d w h hw hd => ?_, fun L lf st d w hw hd hm => ?_⟩
  · refine jqPt_cong h.my (fun _ c hc mc => ?_) (fun _ => ?_)
    · have mc := of_decide_eq_true mc
      obtain ⟨a1, a2, a3⟩ := h c hc
      unfold jcRg; rw [a3 mc.2, a2]
    · exact congrArg Prod.fst (jV_qv (ex := true) (fun q => absurd q (by decide)) _ _ _ _ _ _ _ _ (fun c hc => by
        obtain ⟨a1, a2, a3⟩ := h c hc
        exact ⟨a1, by omega, fun _ q => a3 q, fun q _ => a3 q, by rw [a2], fun _ _ => a2⟩))
  · refine jqPt_may hm (fun _ => ?_)
    rw [show ((u 16 1).toInt - d).toNat = ((u 16 1).toInt - d - 1).toNat + 1 by omega, jV, if_neg (by omega)]
    obtain ⟨_, f3, fm⟩ := jFi_may hm
    obtain ⟨b, b4, eb, mb⟩ := jPk_may (jPk_some (m := jMy4 L lf) (v := fun b => jMo (u 16 2).toInt (jRnc u b (u 17 w.toNat).toInt (st b)) (jChc u b (u 17 w.toNat).toInt (st b) (lf b) d w) (jV (jChc u) (jRnc u) (fun y => (u 17 y).toInt) (u 16 0).toInt (u 16 2).toInt ((u 16 1).toInt - d - 1).toNat (b : Int) (jLn lf b) (jSn st b) (d + 1) (w + 1)).2 (jV (jChc u) (jRnc u) (fun y => (u 17 y).toInt) (u 16 0).toInt (u 16 2).toInt ((u 16 1).toInt - d - 1).toNat (b : Int) (jLn lf b) (jSn st b) (d + 1) w).2) (n := 4) (b := (jFi (jMy4 L lf)).toNat) (by omega) fm)
    rw [eb]; exact ⟨by omega, by omega, by rw [show ((b : Nat) : Int).toNat = b by omega]; exact mb⟩
/-! mean and likely, in the class -/
theorem jU_r {P : Int → (Nat → Int) → (Nat → Int) → Int → Int → Int} {ch : Nat → Int → Int → Int → Int → Int → Int} {rn : Nat → Int → Int → Int} {so : Nat → Int} {n : Int} {E : Int → Int} {C : Int → Int → Int → Int → Int → Int} {S : Int → Int → Int} {Q : Nat → Int → Prop} (h0 : ∀ (k : Nat) (x : Int), Q k (E x)) (hs : ∀ (k : Nat) (x r c p q : Int), (0 ≤ r ∧ r ≤ 41) → (0 ≤ c ∧ c ≤ 1000) → Q k p → Q k q → Q (k + 1) (C x r c p q)) (hr : ∀ (b : Nat) (s t : Int), 0 ≤ rn b s t ∧ rn b s t ≤ 41) (hc : ∀ (b : Nat) (s t l o w : Int), 0 ≤ ch b s t l o w ∧ ch b s t l o w ≤ 1000) :
    ∀ (k : Nat) (L : Int) (lf st : Nat → Int) (d w x : Int), Q k (jU P ch rn so n E C S k L lf st d w x)
  | 0, _, _, _, _, _, x => h0 0 x
  | k + 1, L, lf, st, d, w, x => by
    rw [jU]
    by_cases c : n ≤ w ∨ jFi (jMy4 L lf) < 0
    · rw [if_pos c]; exact h0 _ x
    rw [if_neg c]
    exact hs k _ _ _ _ _ (hr _ _ _) (hc _ _ _ _ _ _) (jU_r h0 hs hr hc k _ _ _ _ _ _) (jU_r h0 hs hr hc k _ _ _ _ _ _)
theorem jFi_mb {a : Int32} : 0 ≤ jFi (jAm a) ↔ ∃ b : Int32, jMb a b := by
  constructor
  · intro h
    obtain ⟨h0, h3, hm⟩ := jFi_may h
    have z := (jofn4 (c := (jFi (jAm a)).toNat) (by omega)).2.2
    exact ⟨Int32.ofNat (jFi (jAm a)).toNat, (jAm_mb (by omega) (by omega)).mpr (by rw [z, show (((jFi (jAm a)).toNat : Nat) : Int).toNat = (jFi (jAm a)).toNat by omega]; exact hm)⟩
  · rintro ⟨b, hb⟩
    exact jFi_some (c := b.toInt.toNat) (by have := hb.1; omega) ((jAm_mb hb.1.1 hb.1.2).mp hb)
def jcEq (σ u : Nat → Nat → Int32) : Prop := (u 16 = σ 16 ∧ u 17 = σ 17 ∧ u 18 = σ 18 ∧ u 19 = σ 19 ∧ u 22 = σ 22 ∧ u 23 = σ 23 ∧ u 27 = σ 27 ∧ u 28 = σ 28) ∧ (u 31 = σ 31 ∧ u 32 = σ 32 ∧ u 33 = σ 33 ∧ u 34 = σ 34 ∧ u 35 = σ 35) ∧ u 38 = σ 38 ∧ u 39 = σ 39 ∧ u 40 = σ 40 ∧ u 41 = σ 41
theorem jcEq.ch {σ u : Nat → Nat → Int32} (h : jcEq σ u) : jChc u = jChc σ ∧ jRnc u = jRnc σ ∧ jGb u = jGb σ := by
  obtain ⟨⟨a1, a2, a3, a4, a5, a6, a7, a8⟩, _, _⟩ := h
  exact ⟨jChc_eq a7 a6 (by rw [a5]), jRnc_eq a8, by unfold jGb; rw [a6, a5]⟩
theorem jcEq.p {σ u : Nat → Nat → Int32} (h : jcEq σ u) : jcP u = jcP σ := by
  have ⟨c1, c2, _⟩ := h.ch
  obtain ⟨⟨a1, a2, a3, a4, a5, a6, a7, a8⟩, ⟨b1, b2, b3, b4, b5⟩, d1, d2, d3, d4⟩ := h
  funext r L lf st d w
  unfold jcP
  rw [jcRg_eq (u := u) (σ := σ) a7 a8 a6 (by rw [a5]) a2 a4 (by rw [a3]) d2 d4, c1, c2, d2, d3, d4, a1, a2]
theorem jcEq.gs {σ u : Nat → Nat → Int32} (h : jcEq σ u) {a : Int32} {o w : Int} (g : jqGs σ a o w) : jqGs u a o w := by
  have ⟨c1, c2, c3⟩ := h.ch
  obtain ⟨⟨a1, a2, a3, a4, a5, a6, a7, a8⟩, ⟨b1, b2, b3, b4, b5⟩, d1, d2, d3, d4⟩ := h
  obtain ⟨w0, ⟨sr, kg, fm, hx, dep, lv⟩, re, z⟩ := g
  refine ⟨w0, ⟨⟨?_, fun k hk => absurd hk (by omega)⟩, jKg.fr (by rw [b1]) (by rw [b1]) (by rw [b1]) (by rw [b1]) b2 b3 kg, by rw [b1]; exact fm, by rw [b1, a5]; exact hx, by rw [c3, a5]; exact dep, by rw [b1, a1]; exact lv⟩, ?_, by rw [b1, a1]; exact z⟩
  · rw [c1, c2, a2, a1, b1, b2, b4, b5]; exact sr.1
  · unfold jqRe; rw [b1, b2]; exact re
noncomputable def jcU (u : Nat → Nat → Int32) (r : Int) (E : Int → Int) (C : Int → Int → Int → Int → Int → Int) (S : Int → Int → Int) (a : Int32) (d w x : Int) : Int := jU (jcP u r) (jChc u) (jRnc u) (fun y => (u 17 y).toInt) (u 16 0).toInt E C S ((u 16 1).toInt - d).toNat (jla a) (jlf a) (jst a) d w x
theorem jcEq.u {σ u : Nat → Nat → Int32} (h : jcEq σ u) : jcU u = jcU σ := by
  have ⟨c1, c2, _⟩ := h.ch
  have p := h.p
  obtain ⟨⟨a1, a2, a3, a4, a5, a6, a7, a8⟩, _, _⟩ := h
  funext r E C S a d w x
  unfold jcU; rw [p, c1, c2, a1, a2]
/-- what a RULE asks of a state -/
def jcM1 (u : Nat → Nat → Int32) (r : Int) (a : Int32) (d w : Int) : Prop := (0 ≤ r ∧ r < (u 38 0).toInt) ∧ jTd (u 40 r.toNat).toInt 0 ≤ 3 ∧ (∀ k : Nat, k < 64 → 0 ≤ (u 28 k).toInt ∧ (u 28 k).toInt ≤ 41) ∧ ((u 39 r.toNat).toInt = 2 → d < (u 16 1).toInt → w < (u 16 0).toInt → jqGs u a d w) ∧ (u 16 1).toInt ≤ 8 ∧ (u 16 0).toInt ≤ 8 ∧ (0 ≤ (u 16 2).toInt ∧ (u 16 2).toInt ≤ 999)
theorem jcEq.m1 {σ u : Nat → Nat → Int32} (h : jcEq σ u) {r : Int} {a : Int32} {d w : Int} (m : jcM1 σ r a d w) : jcM1 u r a d w := by
  have gs := @jcEq.gs σ u h a d w
  obtain ⟨⟨a1, a2, a3, a4, a5, a6, a7, a8⟩, _, d1, d2, d3, d4⟩ := h
  obtain ⟨m1, m2, m3, m4, m5⟩ := m
  unfold jcM1
  rw [d1, d2, d3, a8, a1]
  exact ⟨m1, m2, m3, fun z z1 z2 => gs (m4 z z1 z2), m5⟩
theorem jcM1.next {u : Nat → Nat → Int32} {r : Int} {a a2 : Int32} {d w d' w' : Int} {b : Nat} (h : jcM1 u r a d w) (dT : d < (u 16 1).toInt) (wN : w < (u 16 0).toInt) (hb : b < 4) (my : jqMy a b) (g2 : jAg a b a2) (ed : d' = d + 1) (ew : w' = w ∨ w' = w + 1) : jcM1 u r a2 d' w' :=
  ⟨h.1, h.2.1, h.2.2.1, fun z z1 z2 => (h.2.2.2.1 z dT wN).next hb my g2 ed z1 ew z2, h.2.2.2.2⟩
theorem jcM1.pick {u : Nat → Nat → Int32} {r : Int} {a : Int32} {d w : Int} {b : Int32} (dT : d < (u 16 1).toInt) (wN : w < (u 16 0).toInt) (mb : ∃ b : Int32, jMb a b) (hb : b.toInt = jcP u r (jla a) (jlf a) (jst a) d w) : (0 ≤ b.toInt ∧ b.toInt ≤ 3) ∧ jqMy a b.toInt.toNat := by
  obtain ⟨b0, b3, m⟩ := jcP_P.2 (jla a) (jlf a) (jst a) d w wN dT (jFi_mb.mpr mb)
  rw [← hb] at b0 b3 m
  have m := of_decide_eq_true m
  exact ⟨⟨b0, b3⟩, m⟩
theorem jcU.step {σ : Nat → Nat → Int32} {E : Int → Int} {C : Int → Int → Int → Int → Int → Int} {S : Int → Int → Int} {r d w x r' c p q d1 d0 w1 x1 x0 : Int} {a a2 b : Int32} (m : jcM1 σ r a d w) (dT : d < (σ 16 1).toInt) (wN : w < (σ 16 0).toInt) (mb : ∃ b : Int32, jMb a b) (hb : b.toInt = jcP σ r (jla a) (jlf a) (jst a) d w) (ag : 0 ≤ b.toInt → b.toInt ≤ 3 → jAg a b.toInt.toNat a2)
    (hr : r' = jRnc σ b.toInt.toNat (σ 17 w.toNat).toInt (jst a b.toInt.toNat)) (hc : c = jChc σ b.toInt.toNat (σ 17 w.toNat).toInt (jst a b.toInt.toNat) (jlf a b.toInt.toNat) d w)
    (hp : jcM1 σ r a2 d1 w1 → p = jcU σ r E C S a2 d1 w1 x1) (hq : jcM1 σ r a2 d0 w → q = jcU σ r E C S a2 d0 w x0) (e3 : d1 = d + 1) (e4 : d0 = d + 1) (e5 : w1 = w + 1) (e7 : x1 = S x r') (e8 : x0 = S x r') : C (S x r') r' c p q = jcU σ r E C S a d w x := by
  obtain ⟨⟨b0, b3⟩, my⟩ := jcM1.pick dT wN mb hb
  have g := ag b0 b3
  have b4 : b.toInt.toNat < 4 := by omega
  obtain ⟨l1, l2⟩ := g.ln my.2 b4
  have l1 : jla a2 = b.toInt := by omega
  have pp := hp (m.next dT wN b4 my g e3 (Or.inr e5))
  have qq := hq (m.next dT wN b4 my g e4 (Or.inl rfl))
  unfold jcU at pp qq ⊢
  exact jU_step jcP_P dT wN (jFi_mb.mpr mb) hb hr hc pp qq l1 l1 e3 e4 e5 rfl e7 e8 l2 l2
theorem jcU.fin {σ : Nat → Nat → Int32} {E : Int → Int} {C : Int → Int → Int → Int → Int → Int} {S : Int → Int → Int} {r d w x : Int} {a : Int32} (e : ¬ (w < (σ 16 0).toInt ∧ d < (σ 16 1).toInt ∧ ∃ b : Int32, jMb a b)) : jcU σ r E C S a d w x = E x := by
  refine jU_end ?_
  by_cases h1 : (σ 16 1).toInt ≤ d
  · left; omega
  by_cases h2 : (σ 16 0).toInt ≤ w
  · exact Or.inr (Or.inl h2)
  refine Or.inr (Or.inr (Int.not_le.mp (fun z => e ⟨by omega, by omega, jFi_mb.mp z⟩)))
noncomputable def jcMe (u : Nat → Nat → Int32) (r : Int) (a : Int32) (d w : Int) : Int := jcU u r (fun _ => 0) (fun _ r c p q => jMo (u 16 2).toInt r c p q) (fun x _ => x) a d w 0
noncomputable def jcLi (u : Nat → Nat → Int32) (r : Int) (a : Int32) (d w x : Int) : Int := jcU u r (fun x => if 0 < x then 1000000 else 0) (fun x _ c p q => jMx (u 16 2).toInt (if 0 < x then 1000000 else 0) (jMx c p q)) (fun x r => x - r) a d w x
theorem jcMe_r {u : Nat → Nat → Int32} {r : Int} {a : Int32} {d w : Int} (m : jcM1 u r a d w) (d0 : 0 ≤ d) : 0 ≤ jcMe u r a d w ∧ jcMe u r a d w ≤ 328000 := by
  obtain ⟨_, _, m3, _, m5, _, m7⟩ := m
  have z := jU_r (P := jcP u r) (so := fun y => (u 17 y).toInt) (n := (u 16 0).toInt) (E := fun _ => 0) (C := fun _ r c p q => jMo (u 16 2).toInt r c p q) (S := fun x _ => x) (Q := fun k v => 0 ≤ v ∧ v ≤ 41000 * (k : Int)) (fun k _ => ⟨by show (0 : Int) ≤ 0; decide, by show (0 : Int) ≤ _; omega⟩) (fun k x r c p q hr hc hp hq => by have w := jMo_r (R := (u 16 2).toInt) m7 hr hc hp hq; exact ⟨w.1, by have w2 := w.2; show _ ≤ 41000 * ((k + 1 : Nat) : Int); omega⟩) (fun b s t => jRnc_r m3 b s t) (fun b s t l o w => jChc_r u b s t l o w) ((u 16 1).toInt - d).toNat (jla a) (jlf a) (jst a) d w 0
  have z1 : 0 ≤ jcMe u r a d w := z.1
  have z2 : jcMe u r a d w ≤ 41000 * ((((u 16 1).toInt - d).toNat : Nat) : Int) := z.2
  omega
theorem jcLi_r {u : Nat → Nat → Int32} {r : Int} {a : Int32} {d w x : Int} (m : jcM1 u r a d w) : 0 ≤ jcLi u r a d w x ∧ jcLi u r a d w x ≤ 1000000 := by
  obtain ⟨_, _, m3, _, m5, _, m7⟩ := m
  have h01 : ∀ x : Int, 0 ≤ (if 0 < x then (1000000 : Int) else 0) ∧ (if 0 < x then (1000000 : Int) else 0) ≤ 1000000 := fun x => by split <;> omega
  exact jU_r (P := jcP u r) (Q := fun _ v => 0 ≤ v ∧ v ≤ 1000000) (fun k x => h01 x) (fun k x r c p q hr hc hp hq => jMx_r m7.1 (by omega) (h01 x) (jMx_r hc.1 hc.2 hp hq)) (fun b s t => jRnc_r m3 b s t) (fun b s t l o w => jChc_r u b s t l o w) ((u 16 1).toInt - d).toNat (jla a) (jlf a) (jst a) d w x
theorem jcEq.me {σ u : Nat → Nat → Int32} (h : jcEq σ u) : jcMe u = jcMe σ := by
  funext r a d w; unfold jcMe; rw [h.u, h.1.1]
theorem jcEq.li {σ u : Nat → Nat → Int32} (h : jcEq σ u) : jcLi u = jcLi σ := by
  funext r a d w x; unfold jcLi; rw [h.u, h.1.1]
theorem jcMe.step {σ : Nat → Nat → Int32} {r d w r' c p q d1 d0 w1 : Int} {a a2 b : Int32} (m : jcM1 σ r a d w) (dT : d < (σ 16 1).toInt) (wN : w < (σ 16 0).toInt) (mb : ∃ b : Int32, jMb a b) (hb : b.toInt = jcP σ r (jla a) (jlf a) (jst a) d w) (ag : 0 ≤ b.toInt → b.toInt ≤ 3 → jAg a b.toInt.toNat a2)
    (hr : r' = jRnc σ b.toInt.toNat (σ 17 w.toNat).toInt (jst a b.toInt.toNat)) (hc : c = jChc σ b.toInt.toNat (σ 17 w.toNat).toInt (jst a b.toInt.toNat) (jlf a b.toInt.toNat) d w)
    (hp : jcM1 σ r a2 d1 w1 → p = jcMe σ r a2 d1 w1) (hq : jcM1 σ r a2 d0 w → q = jcMe σ r a2 d0 w) (e3 : d1 = d + 1) (e4 : d0 = d + 1) (e5 : w1 = w + 1) (d9 : 0 ≤ d) : (jMo (σ 16 2).toInt r' c p q = jcMe σ r a d w) ∧ (0 ≤ p ∧ p ≤ 328000) ∧ (0 ≤ q ∧ q ≤ 328000) ∧ (0 ≤ r' ∧ r' ≤ 41) ∧ (0 ≤ c ∧ c ≤ 1000) := by
  obtain ⟨⟨b0, b3⟩, my⟩ := jcM1.pick dT wN mb hb
  have g := ag b0 b3
  have b4 : b.toInt.toNat < 4 := by omega
  have m1 := m.next dT wN b4 my g e3 (Or.inr e5)
  have m0 := m.next dT wN b4 my g e4 (Or.inl rfl)
  refine ⟨jcU.step (E := fun _ => 0) (C := fun _ r c p q => jMo (σ 16 2).toInt r c p q) (S := fun x _ => x) (x := 0) m dT wN mb hb ag hr hc hp hq e3 e4 e5 rfl rfl, ?_, ?_, ?_, ?_⟩
  · rw [hp m1]; exact jcMe_r m1 (by omega)
  · rw [hq m0]; exact jcMe_r m0 (by omega)
  · rw [hr]; exact jRnc_r m.2.2.1 _ _ _
  · rw [hc]; exact jChc_r _ _ _ _ _ _ _
theorem jcLi.step {σ : Nat → Nat → Int32} {r d w x r' c p q d1 d0 w1 x1 : Int} {a a2 b : Int32} (m : jcM1 σ r a d w) (dT : d < (σ 16 1).toInt) (wN : w < (σ 16 0).toInt) (mb : ∃ b : Int32, jMb a b) (hb : b.toInt = jcP σ r (jla a) (jlf a) (jst a) d w) (ag : 0 ≤ b.toInt → b.toInt ≤ 3 → jAg a b.toInt.toNat a2)
    (hr : r' = jRnc σ b.toInt.toNat (σ 17 w.toNat).toInt (jst a b.toInt.toNat)) (hc : c = jChc σ b.toInt.toNat (σ 17 w.toNat).toInt (jst a b.toInt.toNat) (jlf a b.toInt.toNat) d w)
    (hp : jcM1 σ r a2 d1 w1 → p = jcLi σ r a2 d1 w1 x1) (hq : jcM1 σ r a2 d0 w → q = jcLi σ r a2 d0 w x1) (e3 : d1 = d + 1) (e4 : d0 = d + 1) (e5 : w1 = w + 1) (e7 : x1 = x - r') : (jMx (σ 16 2).toInt (if 0 < x1 then 1000000 else 0) (jMx c p q) = jcLi σ r a d w x) ∧ (0 ≤ p ∧ p ≤ 1000000) ∧ (0 ≤ q ∧ q ≤ 1000000) ∧ (0 ≤ c ∧ c ≤ 1000) := by
  obtain ⟨⟨b0, b3⟩, my⟩ := jcM1.pick dT wN mb hb
  have g := ag b0 b3
  have b4 : b.toInt.toNat < 4 := by omega
  have m1 := m.next dT wN b4 my g e3 (Or.inr e5)
  have m0 := m.next dT wN b4 my g e4 (Or.inl rfl)
  refine ⟨?_, ?_, ?_, ?_⟩
  · subst e7; exact jcU.step (E := fun x => if 0 < x then 1000000 else 0) (C := fun x _ c p q => jMx (σ 16 2).toInt (if 0 < x then 1000000 else 0) (jMx c p q)) (S := fun x r => x - r) m dT wN mb hb ag hr hc hp hq e3 e4 e5 rfl rfl
  · rw [hp m1]; exact jcLi_r m1
  · rw [hq m0]; exact jcLi_r m0
  · rw [hc]; exact jChc_r _ _ _ _ _ _ _
theorem jMx_of {c p q x : Int32} (e : x = (c * p + (1000 - c) * q) / 1000) (c0 : 0 ≤ c.toInt ∧ c.toInt ≤ 1000) (p0 : 0 ≤ p.toInt ∧ p.toInt ≤ 1000000) (q0 : 0 ≤ q.toInt ∧ q.toInt ≤ 1000000) : x.toInt = jMx c.toInt p.toInt q.toInt := by
  have k : (1000 : Int32).toInt = 1000 := by decide
  have b1 := jmb2 c0.1 c0.2 p0.1 p0.2
  have m1 : (c * p).toInt = c.toInt * p.toInt := jmul rfl rfl rfl (by omega) (by omega)
  have s1 : ((1000 : Int32) - c).toInt = 1000 - c.toInt := jsub rfl k rfl (by omega) (by omega)
  have b2 := jmb2 (a := 1000 - c.toInt) (U := 1000) (by omega) (by omega) q0.1 q0.2
  have m2 : ((1000 - c) * q).toInt = (1000 - c.toInt) * q.toInt := jmul rfl s1 rfl (by omega) (by omega)
  have b3 : c.toInt * p.toInt ≤ c.toInt * 1000000 := Int.mul_le_mul_of_nonneg_left p0.2 c0.1
  have b4 : (1000 - c.toInt) * q.toInt ≤ (1000 - c.toInt) * 1000000 := Int.mul_le_mul_of_nonneg_left q0.2 (by omega)
  have a1 : (c * p + (1000 - c) * q).toInt = c.toInt * p.toInt + (1000 - c.toInt) * q.toInt := jadd rfl m1 m2 (by omega) (by omega)
  subst e
  exact jdiv rfl a1 k (by omega) (by decide)
/-! who is put on, in words of numbers alone -/
def jRt9 (κ : Int) (ch : Nat → Int → Int → Int → Int → Int → Int) (rn : Nat → Int → Int → Int) (so : Nat → Int) (tx : Nat → Int → Int → Int → Int → Int → Int → Int) (lf st : Nat → Int) (d w : Int) : Nat → Int := fun b =>
  if κ = 3 then ch b (so w.toNat) (st b) (lf b) d w - 1000 * rn b (so w.toNat) (st b)
  else if κ = 5 then ch b (so w.toNat) (st b) (lf b) d w
  else tx b (so w.toNat) (st b) (lf b) d w (ch b (so w.toNat) (st b) (lf b) d w)
def jPq (κ x0 k : Int) (x : Int → Int) (ch : Nat → Int → Int → Int → Int → Int → Int) (rn : Nat → Int → Int → Int) (so : Nat → Int) (tx : Nat → Int → Int → Int → Int → Int → Int → Int) (n R T : Int) : Int → (Nat → Int) → (Nat → Int) → Int → Int → Int := fun L lf st d w => jqPt κ x0 (x d) k d (jMy4 L lf) (jRt9 κ ch rn so tx lf st d w) (jV ch rn so n R (T - d).toNat L lf st d w).1
theorem jPq_P {κ x0 k : Int} {x : Int → Int} {ch : Nat → Int → Int → Int → Int → Int → Int} {rn : Nat → Int → Int → Int} {so : Nat → Int} {tx : Nat → Int → Int → Int → Int → Int → Int → Int} {n R T : Int} : jPP (jPq κ x0 k x ch rn so tx n R T) n T := by
  refine ⟨fun L lf lf' st st' d w h hw hd => ?_, fun L lf st d w hw hd hm => ?_⟩
  · refine jqPt_cong h.my (fun _ c hc mc => ?_) (fun _ => ?_)
    · have mc := of_decide_eq_true mc
      obtain ⟨a1, a2, a3⟩ := h c hc
      unfold jRt9; rw [a3 mc.2, a2]
    · exact congrArg Prod.fst (jV_qv (ex := true) (fun q => absurd q (by decide)) _ _ _ _ _ _ _ _ (fun c hc => by
        obtain ⟨a1, a2, a3⟩ := h c hc
        exact ⟨a1, by omega, fun _ q => a3 q, fun q _ => a3 q, by rw [a2], fun _ _ => a2⟩))
  · refine jqPt_may hm (fun _ => ?_)
    rw [show (T - d).toNat = (T - d - 1).toNat + 1 by omega, jV, if_neg (by omega)]
    obtain ⟨_, f3, fm⟩ := jFi_may hm
    obtain ⟨b, b4, eb, mb⟩ := jPk_may (jPk_some (m := jMy4 L lf) (v := fun b => jMo R (rn b (so w.toNat) (st b)) (ch b (so w.toNat) (st b) (lf b) d w) (jV ch rn so n R (T - d - 1).toNat (b : Int) (jLn lf b) (jSn st b) (d + 1) (w + 1)).2 (jV ch rn so n R (T - d - 1).toNat (b : Int) (jLn lf b) (jSn st b) (d + 1) w).2) (n := 4) (b := (jFi (jMy4 L lf)).toNat) (by omega) fm)
    rw [eb]; exact ⟨by omega, by omega, by rw [show ((b : Nat) : Int).toNat = b by omega]; exact mb⟩
theorem jPq_cong {κ x0 x0' k : Int} {x x' : Int → Int} {ch ch' : Nat → Int → Int → Int → Int → Int → Int} {rn rn' : Nat → Int → Int → Int} {so so' : Nat → Int} {tx tx' : Nat → Int → Int → Int → Int → Int → Int → Int} {n R T B : Int} (h8 : κ = 1 ∨ κ = 4 → x0 = x0' ∧ ∀ d : Int, 0 ≤ d → x d = x' d)
    (hs : ∀ z : Nat, (z : Int) < n → so z = so' z ∧ 0 ≤ so z ∧ so z ≤ 3)
    (hc : ∀ (b : Nat) (s t l o w : Int), b < 4 → (b : Int) < B → (0 ≤ s ∧ s ≤ 3) → (0 ≤ t ∧ t ≤ 3) → (0 ≤ l ∧ l ≤ 15) → (0 ≤ o ∧ o < T) → (0 ≤ w ∧ w < n) → ch b s t l o w = ch' b s t l o w) (hr : ∀ (b : Nat) (s t : Int), b < 4 → (b : Int) < B → (0 ≤ s ∧ s ≤ 3) → (0 ≤ t ∧ t ≤ 3) → rn b s t = rn' b s t)
    (ht : κ ≠ 3 → κ ≠ 5 → κ ≠ 0 → κ ≠ 1 → κ ≠ 2 → κ ≠ 4 → ∀ (b : Nat) (s t l o w p : Int), b < 4 → (b : Int) < B → (0 ≤ s ∧ s ≤ 3) → (0 ≤ t ∧ t ≤ 3) → (0 ≤ l ∧ l ≤ 15) → (0 ≤ o ∧ o < T) → (0 ≤ w ∧ w < n) → tx b s t l o w p = tx' b s t l o w p)
    {L : Int} {lf st : Nat → Int} {d w : Int} (lr : jLR B lf st) (d0 : 0 ≤ d) (dT : d < T) (w0 : 0 ≤ w) (wn : w < n) : jPq κ x0 k x ch rn so tx n R T L lf st d w = jPq κ x0' k x' ch' rn' so' tx' n R T L lf st d w := by
  unfold jPq
  rw [jqPt_x (x' := x' d) (x0' := x0') (fun z => ⟨(h8 z).2 d d0, (h8 z).1⟩)]
  refine jqPt_cong (fun _ _ => rfl) (fun kk c hc4 mc => ?_) (fun _ => congrArg Prod.fst (jV_cong (w0 := 0) (O := T) (fun z _ hz => hs z hz) hc hr _ _ _ _ _ _ lr d0 (by omega) w0 w0))
  have mc := of_decide_eq_true mc
  obtain ⟨f1, f2, f3⟩ := lr c hc4
  have cB : (c : Int) < B := Int.not_le.mp (fun z => by have := f3 z; omega)
  obtain ⟨s1, s2, s3⟩ := hs w.toNat (by omega)
  unfold jRt9
  rw [← s1, ← hc c _ _ _ _ _ hc4 cB ⟨s2, s3⟩ f2 f1 ⟨d0, dT⟩ ⟨w0, wn⟩, ← hr c _ _ hc4 cB ⟨s2, s3⟩ f2]
  by_cases k3 : κ = 3
  · rw [if_pos k3, if_pos k3]
  rw [if_neg k3, if_neg k3]
  by_cases k5 : κ = 5
  · rw [if_pos k5, if_pos k5]
  rw [if_neg k5, if_neg k5]
  exact ht k3 k5 (by omega) (by omega) (by omega) (by omega) c _ _ _ _ _ _ hc4 cB ⟨s2, s3⟩ f2 f1 ⟨d0, dT⟩ ⟨w0, wn⟩
def jMnV (P : Int → (Nat → Int) → (Nat → Int) → Int → Int → Int) (ch : Nat → Int → Int → Int → Int → Int → Int) (rn : Nat → Int → Int → Int) (so : Nat → Int) (n R T : Int) (L : Int) (lf st : Nat → Int) (d w : Int) : Int := jU P ch rn so n (fun _ => 0) (fun _ r c p q => jMo R r c p q) (fun x _ => x) (T - d).toNat L lf st d w 0
def jLkV (P : Int → (Nat → Int) → (Nat → Int) → Int → Int → Int) (ch : Nat → Int → Int → Int → Int → Int → Int) (rn : Nat → Int → Int → Int) (so : Nat → Int) (n R T : Int) (L : Int) (lf st : Nat → Int) (d w x : Int) : Int := jU P ch rn so n (fun x => if 0 < x then 1000000 else 0) (fun x _ c p q => jMx R (if 0 < x then 1000000 else 0) (jMx c p q)) (fun x r => x - r) (T - d).toNat L lf st d w x
/-! the class, laid or not -/
noncomputable def jcTx (u : Nat → Nat → Int32) (r : Int) : Nat → Int → Int → Int → Int → Int → Int → Int := fun b s t l o w p => (jGc (u 19) (u 18 0).toInt (jN8 (jwd o) (jwd w) (jwd s) (jwd (b : Int)) (jwd t) (jwd l) (jwd p) (u 41 r.toNat))).toInt
theorem jcP_pq {u : Nat → Nat → Int32} {r : Int} : jcP u r = jPq (u 39 r.toNat).toInt (jTd (u 40 r.toNat).toInt 0) (u 41 r.toNat).toInt (jTd (u 40 r.toNat).toInt) (jChc u) (jRnc u) (fun y => (u 17 y).toInt) (jcTx u r) (u 16 0).toInt (u 16 2).toInt (u 16 1).toInt := rfl
noncomputable def jcQ (σ : Nat → Nat → Int32) (f r : Int) : Int → (Nat → Int) → (Nat → Int) → Int → Int → Int := jPq (σ 39 r.toNat).toInt (jTd (σ 40 r.toNat).toInt 0) (σ 41 r.toNat).toInt (jTd (σ 40 r.toNat).toInt) (jcCh σ f) (jcRn σ f) (fun y => (σ 17 y).toInt) (jcTx σ r) (σ 16 0).toInt (σ 16 2).toInt (σ 16 1).toInt
/-- laid of σ's numbers, else as σ -/
def jqLw (σ u : Nat → Nat → Int32) (f : Int) : Prop := jLd (u 27) (u 28) (σ 3) (σ 4) (σ 5) f 64 ∧ jGb u = jGb σ ∧ (u 16 = σ 16 ∧ u 17 = σ 17 ∧ u 18 = σ 18 ∧ u 19 = σ 19) ∧ u 38 = σ 38 ∧ u 39 = σ 39 ∧ u 40 = σ 40 ∧ u 41 = σ 41
theorem jqLw.q {σ u : Nat → Nat → Int32} {f r : Int} (h : jqLw σ u f) (s3 : ∀ z : Nat, (z : Int) < (σ 16 0).toInt → 0 ≤ (σ 17 z).toInt ∧ (σ 17 z).toInt ≤ 3) {L : Int} {lf st : Nat → Int} {d w : Int} (lr : jLR 4 lf st) (d0 : 0 ≤ d) (dT : d < (σ 16 1).toInt) (w0 : 0 ≤ w) (wn : w < (σ 16 0).toInt) : jcP u r L lf st d w = jcQ σ f r L lf st d w := by
  obtain ⟨ld, g, ⟨e16, e17, e18, e19⟩, e38, e39, e40, e41⟩ := h
  have et : jcTx u r = jcTx σ r := by unfold jcTx; rw [e19, e18, e41]
  rw [jcP_pq, e39, e40, e41, e16, e17, et]
  exact jPq_cong (B := 4) (fun _ => ⟨rfl, fun _ _ => rfl⟩) (fun z hz => ⟨rfl, s3 z hz⟩) (fun b s t l o w hb _ hs ht _ _ _ => ld.ch g b s t l o w hb hs ht) (fun b s t hb _ hs ht => ld.rn b s t hb hs ht) (fun _ _ _ _ _ _ b s t l o w p _ _ _ _ _ _ _ => rfl) lr d0 dT w0 wn
noncomputable def jcMnV (σ : Nat → Nat → Int32) (f r L : Int) (lf st : Nat → Int) : Int := jMnV (jcQ σ f r) (jcCh σ f) (jcRn σ f) (fun y => (σ 17 y).toInt) (σ 16 0).toInt (σ 16 2).toInt (σ 16 1).toInt L lf st 0 0
noncomputable def jcLkV (σ : Nat → Nat → Int32) (f r L : Int) (lf st : Nat → Int) (x : Int) : Int := jLkV (jcQ σ f r) (jcCh σ f) (jcRn σ f) (fun y => (σ 17 y).toInt) (σ 16 0).toInt (σ 16 2).toInt (σ 16 1).toInt L lf st 0 0 x
theorem jqLw.u {σ u : Nat → Nat → Int32} {f r : Int} (h : jqLw σ u f) (s3 : ∀ z : Nat, (z : Int) < (σ 16 0).toInt → 0 ≤ (σ 17 z).toInt ∧ (σ 17 z).toInt ≤ 3) {E : Int → Int} {C : Int → Int → Int → Int → Int → Int} {S : Int → Int → Int} {a : Int32} {x : Int} {lf st : Nat → Int} (T0 : 0 ≤ (σ 16 1).toInt) (hl : ∀ c : Nat, c < 4 → jlf a c = lf c ∧ jst a c = st c) (hL : jla a = -1) : jcU u r E C S a 0 0 x = jU (jcQ σ f r) (jcCh σ f) (jcRn σ f) (fun y => (σ 17 y).toInt) (σ 16 0).toInt E C S ((σ 16 1).toInt - 0).toNat (-1) lf st 0 0 x := by
  obtain ⟨ld, g, ⟨e16, e17, e18, e19⟩, e38⟩ := id h
  unfold jcU
  have lr : jLR 4 (jlf a) (jst a) := fun c hc => ⟨jlf_r a c hc, jst_r a c hc, fun z => absurd z (by omega)⟩
  rw [hL, e16, e17]
  rw [jU_cong (P := jcP u r) (P' := jcQ σ f r) (ch' := jcCh σ f) (rn' := jcRn σ f) (so' := fun y => (σ 17 y).toInt) (B := 4) (T := (σ 16 1).toInt) (by have z := jcP_P (u := u) (r := r); rw [e16] at z; exact z) (fun z hz => ⟨rfl, s3 z hz⟩) (fun b s t l o w hb _ hs ht _ _ _ => ld.ch g b s t l o w hb hs ht) (fun b s t hb _ hs ht => ld.rn b s t hb hs ht) (fun L lf st d w lr d0 dT w0 wn => h.q s3 lr d0 dT w0 wn) _ _ _ _ _ _ _ lr (by omega) (by omega) (by omega)]
  exact jU_eq (T := (σ 16 1).toInt) jPq_P _ _ _ _ _ _ _ _ _ (fun c hc => ⟨(jlf_r a c hc).1, (hl c hc).1, fun _ => (hl c hc).2⟩) (by omega)
theorem jqGs.root {u : Nat → Nat → Int32} {a : Int32} {o w : Int} (sr : jqSr u u 17 w 0) (kg : jKg u) (fm : jFm a) (e9 : u 31 9 = a) (hx : (u 31 12).toInt ≠ 0 ↔ (u 22 1).toBitVec.getLsbD 5 = true) (dep : jDep (jGb u) (u 22 1)) (s0 : (u 31 10).toInt = o) (lv : (u 31 10).toInt + (u 31 11).toInt = (u 16 1).toInt) (oT : o < (u 16 1).toInt) (w0 : 0 ≤ w) (wN : w < (u 16 0).toInt) : jqGs u a o w := by
  refine ⟨w, ⟨sr, kg, by rw [e9]; exact fm, hx, dep, lv⟩, ?_, w0, by omega, by omega, by omega, oT, wN⟩
  rw [s0, show o - o = 0 by omega]
  exact jqRe.root kg fm e9 (by omega)
theorem jAz_one {t : Nat → Int32} {B : Int} {a a' : Int32} (h : jAz t B a) (h' : jAz t B a') (z : ∀ c : Nat, c < 4 → jst a c = 0) (z' : ∀ c : Nat, c < 4 → jst a' c = 0) (r : 0 ≤ a.toInt ∧ a.toInt ≤ 134217727) (r' : 0 ≤ a'.toInt ∧ a'.toInt ≤ 134217727) : a = a' := by
  refine jA_ext r r' (by unfold jla; rw [h.2, h'.2]) (fun c hc => ?_) (fun c hc => by rw [z c hc, z' c hc])
  unfold jlf
  have e := (jofn4 hc).2.2
  rw [h.1 _ (by omega) (by omega), h'.1 _ (by omega) (by omega)]
theorem jqLw.me {σ u : Nat → Nat → Int32} {f r : Int} (h : jqLw σ u f) (s3 : ∀ z : Nat, (z : Int) < (σ 16 0).toInt → 0 ≤ (σ 17 z).toInt ∧ (σ 17 z).toInt ≤ 3) {a : Int32} {lf st : Nat → Int} (T0 : 0 ≤ (σ 16 1).toInt) (hl : ∀ c : Nat, c < 4 → jlf a c = lf c ∧ jst a c = st c) (hL : jla a = -1) : jcMe u r a 0 0 = jcMnV σ f r (-1) lf st := by
  unfold jcMe; rw [h.u s3 T0 hl hL, h.2.2.1.1]; rfl
theorem jqLw.li {σ u : Nat → Nat → Int32} {f r x : Int} (h : jqLw σ u f) (s3 : ∀ z : Nat, (z : Int) < (σ 16 0).toInt → 0 ≤ (σ 17 z).toInt ∧ (σ 17 z).toInt ≤ 3) {a : Int32} {lf st : Nat → Int} (T0 : 0 ≤ (σ 16 1).toInt) (hl : ∀ c : Nat, c < 4 → jlf a c = lf c ∧ jst a c = st c) (hL : jla a = -1) : jcLi u r a 0 0 x = jcLkV σ f r (-1) lf st x := by
  unfold jcLi; rw [h.u s3 T0 hl hL, h.2.2.1.1]; rfl
theorem jqLw.m1 {σ u : Nat → Nat → Int32} {f r : Int} {a : Int32} {d w : Int} (h : jqLw σ u f) (h1 : 0 ≤ r ∧ r < (σ 38 0).toInt) (rd : jTd (σ 40 r.toNat).toInt 0 ≤ 3) (al : jcAl σ) (f0 : 0 ≤ f) (f3 : f ≤ 3) (gs : (σ 39 r.toNat).toInt = 2 → d < (u 16 1).toInt → w < (u 16 0).toInt → jqGs u a d w) (t8 : (σ 16 1).toInt ≤ 8) (n8 : (σ 16 0).toInt ≤ 8) (R9 : 0 ≤ (σ 16 2).toInt ∧ (σ 16 2).toInt ≤ 999) : jcM1 u r a d w := by
  have r9 := jLd.r41 h.1 f0 f3 al
  obtain ⟨ld, g, ⟨e16, e17, e18, e19⟩, e38, e39, e40, e41⟩ := h
  unfold jcM1
  rw [e38, e39, e40, e16]
  rw [e16] at gs
  exact ⟨h1, rd, r9, gs, t8, n8, R9⟩
/-! puts -/
def jqPu (r : Int) (ok big ended : Prop) (v : Int) : Prop := (¬ ok ∧ r = -1) ∨ (ok ∧ ((big ∧ r = -4) ∨ (¬ big ∧ ((ended ∧ r = -2) ∨ (¬ ended ∧ r = v)))))
theorem jqPu.same {r r' v v' : Int} {ok ok' big big' ended ended' : Prop} (h : jqPu r ok big ended v) (h' : jqPu r' ok' big' ended' v') (e1 : ok ↔ ok') (e2 : ok → (big ↔ big')) (e3 : ended ↔ ended') (e : ok → ¬ big → ¬ ended → v = v') : r = r' := by
  rcases h with ⟨a, b⟩ | ⟨a, ⟨b, c⟩ | ⟨b, ⟨c, d⟩ | ⟨c, d⟩⟩⟩ <;> rcases h' with ⟨a', b'⟩ | ⟨a', ⟨b', c'⟩ | ⟨b', ⟨c', d'⟩ | ⟨c', d'⟩⟩⟩
  all_goals first
    | omega
    | exact absurd (e1.mp a) a'
    | exact absurd (e1.mpr a') a
    | exact absurd ((e2 a).mp b) b'
    | exact absurd ((e2 a).mpr b') b
    | exact absurd (e3.mp c) c'
    | exact absurd (e3.mpr c') c
    | (rw [d, d']; exact e a b c)
theorem jAk.fi {f t : Nat → Int32} {B n : Int} {a : Int32} (h : jAk f t B n a) : jFi (jMy4 (jbL f n) (jbLf t f B n)) = jFi (jAm a) := by
  refine jFi_eq (fun c hc => ?_)
  unfold jAm jMy4; rw [h.la, h.lf c hc]
theorem jqLw.pu {σ u : Nat → Nat → Int32} {f r B n w : Int} {a : Int32} (h : jqLw σ u f) (s3 : ∀ z : Nat, (z : Int) < (σ 16 0).toInt → 0 ≤ (σ 17 z).toInt ∧ (σ 17 z).toInt ≤ 3) (ka : jAk (σ 48) (σ 3) B n a) (fm : jFm a) (n0 : 0 ≤ n) (nT : n < (σ 16 1).toInt) (w0 : 0 ≤ w) (wN : w < (σ 16 0).toInt) : jcP u r (jla a) (jlf a) (jst a) n w = jcQ σ f r (jbL (σ 48) n) (jbLf (σ 3) (σ 48) B n) (jbS (jbL (σ 48) n)) n w := by
  have lr : jLR 4 (jlf a) (jst a) := fun c hc => ⟨jlf_r a c hc, jst_r a c hc, fun z => absurd z (by omega)⟩
  rw [h.q s3 lr n0 nT w0 wN, ← ka.la]
  exact jPq_P.1 _ _ _ _ _ _ _ (fun c hc => ⟨(jlf_r a c hc).1, ka.lf c hc, fun _ => fm.st c hc⟩) wN nT
noncomputable def jcPv (σ : Nat → Nat → Int32) (r : Int) : Int := jcQ σ (σ 2 1).toInt r (jbL (σ 48) (σ 47 0).toInt) (jbLf (σ 3) (σ 48) (σ 2 0).toInt (σ 47 0).toInt) (jbS (jbL (σ 48) (σ 47 0).toInt)) (σ 47 0).toInt (jcnt (σ 49) (σ 47 0).toInt.toNat : Int)
def jcEd (σ : Nat → Nat → Int32) : Prop := ¬ ((jcnt (σ 49) (σ 47 0).toInt.toNat : Int) < (σ 16 0).toInt ∧ (σ 47 0).toInt < (σ 16 1).toInt ∧ 0 ≤ jFi (jMy4 (jbL (σ 48) (σ 47 0).toInt) (jbLf (σ 3) (σ 48) (σ 2 0).toInt (σ 47 0).toInt)))
/-! who is put on, in the reference -/
noncomputable def jrTx (σ : Nat → Nat → Int32) (r : Int) : Nat → Int → Int → Int → Int → Int → Int → Int := fun b s t l o w p => if (σ 65 0).toInt < 0 then 0 else (jGr (fun k : Nat => σ 64 (80 * 0 + k)) (σ 65 0).toInt (jN8 (jwd o) (jwd w) (jwd s) (jwd (b : Int)) (jwd t) (jwd l) (jwd p) (σ 73 r.toNat))).toInt
noncomputable def jrPq (σ : Nat → Nat → Int32) (r : Int) : Int → (Nat → Int) → (Nat → Int) → Int → Int → Int := jPq (σ 70 r.toNat).toInt (jqRd σ r 0) (σ 73 r.toNat).toInt (jqRd σ r) (jrCh σ) (jrRn σ) (fun y => (σ 62 y).toInt) (jrTx σ r) (σ 55 10).toInt (σ 55 13).toInt (σ 55 12).toInt
noncomputable def jrPv (σ : Nat → Nat → Int32) (r : Int) : Int := jrPq σ r (σ 55 27).toInt (jrLf σ) (jrS σ) (σ 55 26).toInt (σ 55 25).toInt
noncomputable def jrRg (σ : Nat → Nat → Int32) (r : Int) : Nat → Int := fun b => if (σ 70 r.toNat).toInt = 0 then 0 else jRt9 (σ 70 r.toNat).toInt (jrCh σ) (jrRn σ) (fun y => (σ 62 y).toInt) (jrTx σ r) (jrLf σ) (jrS σ) (σ 55 26).toInt (σ 55 25).toInt b
theorem jrP.rm {σ : Nat → Nat → Int32} (h : jrP σ) (d12 : (σ 55 26).toInt ≤ 12) : ∀ c : Nat, c < 4 → jqRm σ c = jMy4 (σ 55 27).toInt (jrLf σ) c := fun c hc => by
  have e := (jofn4 hc).2.2
  by_cases hB : (c : Int) < (σ 55 6).toInt
  · have w := h.my (b := Int32.ofNat c) (by omega) (by omega) d12
    rw [e, show ((c : Nat) : Int).toNat = c by omega] at w
    unfold jqRm
    by_cases m : jMy4 (σ 55 27).toInt (jrLf σ) c = true
    · rw [m]; exact decide_eq_true ⟨hB, w.mpr m⟩
    · rw [Bool.eq_false_iff.mpr m]; exact decide_eq_false (fun z => m (w.mp z.2))
  · have l0 : jrLf σ c = 0 := by unfold jrLf jqLr; rw [if_neg hB]
    unfold jqRm jMy4
    rw [decide_eq_false (fun z => hB z.1), decide_eq_false (fun z => by rw [l0] at z; exact absurd z.2 (by decide))]
theorem jBu_m {m : Nat → Bool} {x : Int} (h : x < 0) : jBu m x = m := by
  funext c; unfold jBu; rw [decide_eq_true (show (c : Int) ≠ x by omega), Bool.and_true]
theorem jqRd_0 {σ : Nat → Nat → Int32} {r : Int} (h : (σ 71 r.toNat).toInt ≠ 0) (r0 : 0 ≤ r) : jqRd σ r 0 = (σ 72 (8 * r).toNat).toInt := by
  unfold jqRd; rw [if_neg h, Int.zero_emod, Int.add_zero]
/-- by turns -/
theorem jrP.turn {σ : Nat → Nat → Int32} {r b v : Int} (h : jrP σ) (d12 : (σ 55 26).toInt ≤ 12) (hb : b < 0) (k : (σ 70 r.toNat).toInt = 1) (e : v = jTu (jBu (jqRm σ) b) (jqRd σ r (σ 55 26).toInt)) : v = jrPv σ r := by
  unfold jrPv jrPq jPq
  rw [jqPt_1 k, e, jBu_m hb]
  exact jTu_eq (h.rm d12)
theorem jrP.keep {σ : Nat → Nat → Int32} {r b x v : Int} (h : jrP σ) (d12 : (σ 55 26).toInt ≤ 12) (r0 : 0 ≤ r) (k : (σ 70 r.toNat).toInt = 4) (hx : (x < 0 ∧ ((σ 71 r.toNat).toInt ≤ 0 ∨ (σ 73 r.toNat).toInt ≤ (σ 55 26).toInt)) ∨ (0 < (σ 71 r.toNat).toInt ∧ (σ 55 26).toInt < (σ 73 r.toNat).toInt ∧ x = (σ 72 (8 * r).toNat).toInt)) (m0 : 0 ≤ (σ 71 r.toNat).toInt) (hb : (b = x ∧ 0 ≤ x ∧ 0 ≤ jFi (jBu (jqRm σ) x)) ∨ (b < 0 ∧ (x < 0 ∨ jFi (jBu (jqRm σ) x) < 0))) (e : v = jTu (jBu (jqRm σ) b) (jqRd σ r (σ 55 26).toInt)) : v = jrPv σ r := by
  unfold jrPv jrPq jPq
  rw [jqPt_4 k, e]
  have hm := h.rm d12
  have hu : ∀ y : Int, ∀ c : Nat, c < 4 → jBu (jqRm σ) y c = jBu (jMy4 (σ 55 27).toInt (jrLf σ)) y c := fun y c hc => by unfold jBu; rw [hm c hc]
  rcases hb with ⟨b1, x0, f0⟩ | ⟨b0, xf⟩
  · rcases hx with ⟨x1, _⟩ | ⟨n0, dk, ex⟩
    · omega
    · rw [jqRd_0 (by omega) r0, ← ex, jKm_yes x0 dk (by rw [← jFi_eq (hu x)]; exact f0), b1]
      exact jTu_eq (hu x)
  · rw [jBu_m b0]
    have no : jKm (jMy4 (σ 55 27).toInt (jrLf σ)) (jqRd σ r 0) (σ 55 26).toInt (σ 73 r.toNat).toInt = jMy4 (σ 55 27).toInt (jrLf σ) := by
      refine jKm_no ?_
      rcases hx with ⟨_, n0 | dk⟩ | ⟨n0, dk, ex⟩
      · left; unfold jqRd; rw [if_pos (by omega)]; decide
      · exact Or.inr (Or.inl dk)
      · rw [jqRd_0 (by omega) r0, ← ex]
        rcases xf with x0 | f0
        · exact Or.inl x0
        · exact Or.inr (Or.inr (by rw [← jFi_eq (hu x)]; exact f0))
    rw [no]; exact jTu_eq hm
theorem jrP.best {σ : Nat → Nat → Int32} {r v w : Int} (k : (σ 70 r.toNat).toInt = 2) (hw : w = if (jrV σ).1 < 0 then -2 else (jrV σ).1) (w0 : 0 ≤ w) (e : v = w) : v = jrPv σ r := by
  unfold jrPv jrPq jPq
  rw [jqPt_2 k, e, hw]
  by_cases c : (jrV σ).1 < 0
  · rw [if_pos c] at hw; omega
  · rw [if_neg c]; rfl
theorem jPk_0 {m : Nat → Bool} : (jPk m (fun _ => 0) 4).1 = jFi m := by
  have st : ∀ k : Nat, (jPk m (fun _ => 0) k).1 < 0 → jPk m (fun _ => 0) (k + 1) = if m k = true then ((k : Int), 0) else jPk m (fun _ => 0) k := fun k h => by
    rw [jPk]
    by_cases c : m k = true
    · rw [if_pos ⟨c, Or.inl h⟩, if_pos c]
    · rw [if_neg (fun z => c z.1), if_neg c]
  have sk : ∀ (k : Nat) (v : Int), jPk m (fun _ => 0) k = (v, 0) → 0 ≤ v → jPk m (fun _ => 0) (k + 1) = (v, 0) := fun k v h h0 => by
    rw [jPk, h, if_neg]
    rintro ⟨_, z | z⟩
    · have z : v < 0 := z
      omega
    · exact absurd z (show ¬ ((0 : Int) < 0) by decide)
  have e0 : jPk m (fun _ => 0) 0 = (-1, 0) := rfl
  unfold jFi
  by_cases c0 : m 0 = true
  · have e1 := st 0 (by rw [e0]; decide); rw [if_pos c0] at e1
    rw [if_pos c0, sk 3 0 (sk 2 0 (sk 1 0 e1 (by decide)) (by decide)) (by decide)]
  rw [if_neg c0]
  have e1 := st 0 (by rw [e0]; decide); rw [if_neg c0, e0] at e1
  by_cases c1 : m 1 = true
  · have e2 := st 1 (by rw [e1]; decide); rw [if_pos c1] at e2
    rw [if_pos c1, sk 3 1 (sk 2 1 e2 (by decide)) (by decide)]
  rw [if_neg c1]
  have e2 := st 1 (by rw [e1]; decide); rw [if_neg c1, e1] at e2
  by_cases c2 : m 2 = true
  · have e3 := st 2 (by rw [e2]; decide); rw [if_pos c2] at e3
    rw [if_pos c2, sk 3 2 e3 (by decide)]
  rw [if_neg c2]
  have e3 := st 2 (by rw [e2]; decide); rw [if_neg c2, e2] at e3
  by_cases c3 : m 3 = true
  · have e4 := st 3 (by rw [e3]; decide); rw [if_pos c3] at e4
    rw [if_pos c3, e4]; rfl
  have e4 := st 3 (by rw [e3]; decide); rw [if_neg c3, e3] at e4
  rw [if_neg c3, e4]
/-- the greatest of ratings, or the least of their negatives -/
def jrGt (σ : Nat → Nat → Int32) (r n best by' : Int) : Prop := jqGt (jMy4 (σ 55 27).toInt (jrLf σ)) (jrRg σ r) n best (if (σ 70 r.toNat).toInt = 6 then by' else -by')
theorem jrGt.fin {σ : Nat → Nat → Int32} {r n best by' : Int} (h : jrGt σ r n best by') (n0 : 0 ≤ n) (hn : (σ 55 6).toInt ≤ n) (n4 : n ≤ 4) (k : (σ 70 r.toNat).toInt = 0 ∨ (σ 70 r.toNat).toInt = 3 ∨ (σ 70 r.toNat).toInt = 5 ∨ (σ 70 r.toNat).toInt = 6) : best = jrPv σ r := by
  unfold jrGt jqGt at h
  have ex := jPk_ext (m := jMy4 (σ 55 27).toInt (jrLf σ)) (v := fun b => -(jrRg σ r b)) (n := n.toNat) (4 - n.toNat) (fun c h1 h2 => by
    have l0 : jrLf σ c = 0 := by unfold jrLf jqLr; rw [if_neg (by omega)]
    unfold jMy4; exact decide_eq_false (fun z => by rw [l0] at z; exact absurd z.2 (by decide)))
  rw [show n.toNat + (4 - n.toNat) = 4 by omega, h] at ex
  have e1 : best = (jPk (jMy4 (σ 55 27).toInt (jrLf σ)) (fun b => -(jrRg σ r b)) 4).1 := by rw [ex]
  rw [e1]
  unfold jrPv jrPq jPq
  by_cases k0 : (σ 70 r.toNat).toInt = 0
  · rw [jqPt_0 k0, ← jPk_0]
    refine congrArg Prod.fst (congrArg (fun f => jPk (jMy4 (σ 55 27).toInt (jrLf σ)) f 4) ?_)
    funext b; unfold jrRg; rw [if_pos k0]; rfl
  · rw [jqPt_g (by omega)]
    refine congrArg Prod.fst (congrArg (fun f => jPk (jMy4 (σ 55 27).toInt (jrLf σ)) f 4) ?_)
    funext b; unfold jrRg; rw [if_neg k0]
theorem jrTx_of {n : Nat → Nat → Int32} {c : Nat} {B X ρ : Int} {r bw sw pw : Int32} {k : Int32} (h : r = jGr (fun k : Nat => n 64 (80 * 0 + k)) (n 65 0).toInt (jN8 (n 55 26) (n 55 25) sw bw (n 68 B.toNat) (jleft n bw) pw k)) (pr : jrP n) (hB : B = (c : Int)) (hb : bw.toInt = (c : Int)) (hc : (c : Int) < (n 55 6).toInt) (hs : sw.toInt = X) (s0 : 0 ≤ X ∧ X ≤ 3) (d : 0 ≤ (n 55 26).toInt ∧ (n 55 26).toInt ≤ 12) (w : 0 ≤ (n 55 25).toInt ∧ (n 55 25).toInt ≤ 8) (mb : jmb n bw = 1) (t0 : 0 ≤ (n 65 0).toInt) (p0 : 0 ≤ pw.toInt ∧ pw.toInt ≤ 1000) (hk : k = n 73 ρ.toNat) : r.toInt = jrTx n ρ c X (jrS n c) (jrLf n c) (n 55 26).toInt (n 55 25).toInt pw.toInt := by
  subst hB
  have c4 := pr.2.1
  have hl := pr.left (b := bw) (by omega) (by omega) d.2
  have hm := (pr.mb (b := bw) (by omega) (by omega) d.2).mp mb
  have ec : bw.toInt.toNat = c := by omega
  rw [ec] at hl hm
  have a := pr.1 c (by omega)
  have e1 : jrLf n c = (jleft n bw).toInt := by
    unfold jrLf jqLr; rw [if_pos hc, hl]; unfold jmx; split <;> omega
  have e2 : jleft n bw = jwd (jrLf n c) := jwd_of e1.symm (by omega) (by omega)
  have t : n 68 ((c : Int)).toNat = jwd (jrS n c) := jwd_of rfl a.1.1 (by omega)
  have e3 : sw = jwd X := jwd_of hs s0.1 (by omega)
  have e4 : bw = jwd (c : Int) := jwd_of hb (by omega) (by omega)
  have e5 : n 55 26 = jwd (n 55 26).toInt := jwd_of rfl d.1 (by omega)
  have e6 : n 55 25 = jwd (n 55 25).toInt := jwd_of rfl w.1 (by omega)
  have e7 : pw = jwd pw.toInt := jwd_of rfl p0.1 (by omega)
  unfold jrTx
  rw [if_neg (by omega), ← e2, ← e3, ← e4, ← t, ← e5, ← e6, ← e7, ← hk, h]
theorem jrGt.first {σ : Nat → Nat → Int32} {r n best by' : Int} (hn : n ≤ 0) (h1 : best = -1) (h2 : by' = 0) : jrGt σ r n best by' := by
  subst h1 h2; exact jqGt.first hn rfl (by split <;> rfl)
theorem jrGt.skip {σ : Nat → Nat → Int32} {r n n' best by' : Int} (h : jrGt σ r n best by') (n0 : 0 ≤ n) (hm : jMy4 (σ 55 27).toInt (jrLf σ) n.toNat ≠ true) (e : n' = n + 1) : jrGt σ r n' best by' := jqGt.skip h n0 hm e
theorem jrGt.take {σ : Nat → Nat → Int32} {r n n' best by' best' by'' v : Int} (h : jrGt σ r n best by') (n0 : 0 ≤ n) (hm : jMy4 (σ 55 27).toInt (jrLf σ) n.toNat = true) (hv : ((σ 70 r.toNat).toInt = 6 ∧ v = jrRg σ r n.toNat ∧ (best < 0 ∨ by' < v)) ∨ ((σ 70 r.toNat).toInt ≠ 6 ∧ v = -(jrRg σ r n.toNat) ∧ (best < 0 ∨ v < by'))) (e1 : best' = n) (e2 : by'' = v) (e : n' = n + 1) : jrGt σ r n' best' by'' := by
  unfold jrGt at h ⊢
  rcases hv with ⟨k, ev, c⟩ | ⟨k, ev, c⟩
  · rw [if_pos k] at h ⊢; exact h.take n0 hm ev c e1 e2 e
  · rw [if_neg k] at h ⊢; exact h.take (v := -v) n0 hm (by omega) (by omega) e1 (by omega) e
theorem jrGt.keep {σ : Nat → Nat → Int32} {r n n' best by' v : Int} (h : jrGt σ r n best by') (n0 : 0 ≤ n) (hv : ((σ 70 r.toNat).toInt = 6 ∧ v = jrRg σ r n.toNat ∧ ¬ (best < 0 ∨ by' < v)) ∨ ((σ 70 r.toNat).toInt ≠ 6 ∧ v = -(jrRg σ r n.toNat) ∧ ¬ (best < 0 ∨ v < by'))) (e : n' = n + 1) : jrGt σ r n' best by' := by
  unfold jrGt at h ⊢
  rcases hv with ⟨k, ev, c⟩ | ⟨k, ev, c⟩
  · rw [if_pos k] at h ⊢; exact h.keep n0 ev c e
  · rw [if_neg k] at h ⊢; exact h.keep (v := -v) n0 (by omega) (by omega) e
theorem jrEq.tx {σ σ' : Nat → Nat → Int32} (h : jrEq σ σ') (e73 : σ' 73 = σ 73) : jrTx σ' = jrTx σ := by
  obtain ⟨⟨a1, a2, a3, a4, a5, a6⟩, _⟩ := h
  unfold jrTx; rw [a5, a6, e73]
theorem jrEq.rg {σ σ' : Nat → Nat → Int32} (h : jrEq σ σ') (e68 : σ' 68 = σ 68) (e69 : σ' 69 = σ 69) (e25 : σ' 55 25 = σ 55 25) (e26 : σ' 55 26 = σ 55 26) (e70 : σ' 70 = σ 70) (e73 : σ' 73 = σ 73) : jrRg σ' = jrRg σ := by
  have q := h.ch e68 e69 e25 e26
  have t := h.tx e73
  obtain ⟨⟨a1, a2, a3, a4, a5, a6⟩, _⟩ := h
  unfold jrRg; rw [q.1, q.2.1, q.2.2.1, q.2.2.2, t, a4, e70, e25, e26]
theorem jrRg_3 {σ : Nat → Nat → Int32} {r : Int} {b : Nat} (k : (σ 70 r.toNat).toInt = 3) : jrRg σ r b = jrCh σ b (σ 62 (σ 55 25).toInt.toNat).toInt (jrS σ b) (jrLf σ b) (σ 55 26).toInt (σ 55 25).toInt - 1000 * jrRn σ b (σ 62 (σ 55 25).toInt.toNat).toInt (jrS σ b) := by
  unfold jrRg jRt9; rw [if_neg (by omega), if_pos k]
theorem jrRg_5 {σ : Nat → Nat → Int32} {r : Int} {b : Nat} (k : (σ 70 r.toNat).toInt = 5) : jrRg σ r b = jrCh σ b (σ 62 (σ 55 25).toInt.toNat).toInt (jrS σ b) (jrLf σ b) (σ 55 26).toInt (σ 55 25).toInt := by
  unfold jrRg jRt9; rw [if_neg (by omega), if_neg (by omega), if_pos k]
theorem jrRg_0 {σ : Nat → Nat → Int32} {r : Int} {b : Nat} (k : (σ 70 r.toNat).toInt = 0) : jrRg σ r b = 0 := by
  unfold jrRg; rw [if_pos k]
theorem jrRg_6 {σ : Nat → Nat → Int32} {r : Int} {b : Nat} (k : (σ 70 r.toNat).toInt = 6) : jrRg σ r b = jrTx σ r b (σ 62 (σ 55 25).toInt.toNat).toInt (jrS σ b) (jrLf σ b) (σ 55 26).toInt (σ 55 25).toInt (jrCh σ b (σ 62 (σ 55 25).toInt.toNat).toInt (jrS σ b) (jrLf σ b) (σ 55 26).toInt (σ 55 25).toInt) := by
  unfold jrRg jRt9; rw [if_neg (by omega), if_neg (by omega), if_neg (by omega)]
theorem jrTx_no {σ : Nat → Nat → Int32} {r : Int} {b : Nat} {s t l o w p : Int} (h : (σ 65 0).toInt < 0) : jrTx σ r b s t l o w p = 0 := by
  unfold jrTx; rw [if_pos h]
/-! mean and likely, in the reference -/
theorem jrEq.q {σ σ' : Nat → Nat → Int32} (h : jrEq σ σ') : jqEq σ σ' := ⟨h.1, h.2.1, h.2.2.1, h.2.2.2.1, h.2.2.2.2.1, h.2.2.2.2.2.1, h.2.2.2.2.2.2.1, h.2.2.2.2.2.2.2.1⟩
theorem jqEq.chr {σ σ' : Nat → Nat → Int32} (h : jqEq σ σ') : jrCh σ' = jrCh σ ∧ jrRn σ' = jrRn σ := by
  obtain ⟨⟨a1, a2, a3, a4, a5, a6⟩, b1, b2, b3, b4, b5, b6, b7⟩ := h
  exact ⟨by unfold jrCh; rw [a1, a2, a5, a6, b2], by unfold jrRn; rw [a1, a3, b2]⟩
/-- rules stay -/
def jqRu (σ σ' : Nat → Nat → Int32) : Prop := σ' 70 = σ 70 ∧ σ' 71 = σ 71 ∧ σ' 72 = σ 72 ∧ σ' 73 = σ 73
theorem jqEq.pq {σ σ' : Nat → Nat → Int32} (h : jqEq σ σ') (u : jqRu σ σ') : jrPq σ' = jrPq σ := by
  have c := h.chr
  obtain ⟨⟨a1, a2, a3, a4, a5, a6⟩, b1, b2, b3, b4, b5, b6, b7⟩ := h
  obtain ⟨u1, u2, u3, u4⟩ := u
  have q : jqRd σ' = jqRd σ := by funext r p; unfold jqRd; rw [u2, u3]
  have t : jrTx σ' = jrTx σ := by unfold jrTx; rw [a5, a6, u4]
  funext r
  unfold jrPq; rw [q, t, c.1, c.2, a4, b3, b4, b5, u1, u4]
theorem jrPq_P {σ : Nat → Nat → Int32} {r : Int} : jPP (jrPq σ r) (σ 55 10).toInt (σ 55 12).toInt := by unfold jrPq; exact jPq_P
noncomputable def jrU (σ : Nat → Nat → Int32) (r : Int) (E : Int → Int) (C : Int → Int → Int → Int → Int → Int) (S : Int → Int → Int) (x : Int) : Int := jU (jrPq σ r) (jrCh σ) (jrRn σ) (fun y => (σ 62 y).toInt) (σ 55 10).toInt E C S ((σ 55 12).toInt - (σ 55 26).toInt).toNat (σ 55 27).toInt (jrLf σ) (jrS σ) (σ 55 26).toInt (σ 55 25).toInt x
noncomputable def jrNu (σ : Nat → Nat → Int32) (r : Int) (E : Int → Int) (C : Int → Int → Int → Int → Int → Int) (S : Int → Int → Int) (b : Nat) (e x : Int) : Int := jU (jrPq σ r) (jrCh σ) (jrRn σ) (fun y => (σ 62 y).toInt) (σ 55 10).toInt E C S ((σ 55 12).toInt - ((σ 55 26).toInt + 1)).toNat (b : Int) (jLn (jrLf σ) b) (jSn (jrS σ) b) ((σ 55 26).toInt + 1) ((σ 55 25).toInt + e) x
theorem jrEq.nu {σ σ' : Nat → Nat → Int32} (h : jrEq σ σ') (e68 : σ' 68 = σ 68) (e69 : σ' 69 = σ 69) (e25 : σ' 55 25 = σ 55 25) (e26 : σ' 55 26 = σ 55 26) (u : jqRu σ σ') : jrNu σ' = jrNu σ := by
  have p := h.q.pq u
  have c := h.ch e68 e69 e25 e26
  obtain ⟨⟨a1, a2, a3, a4, a5, a6⟩, b1, b2, b3, b4, b5, b6, b7, b8⟩ := h
  funext r E C S b e x
  unfold jrNu; rw [p, c.1, c.2.1, c.2.2.1, c.2.2.2, a4, b3, b4, e25, e26]
theorem jrU.next {σ σ' : Nat → Nat → Int32} {b : Int32} {r e x : Int} {E : Int → Int} {C : Int → Int → Int → Int → Int → Int} {S : Int → Int → Int} (q : jrEq σ σ') (h : jrP σ) (mb : jmb σ b = 1) (b0 : 0 ≤ b.toInt) (b1 : b.toInt < (σ 55 6).toInt) (e69 : σ' 69 = jupd (σ 69) b.toNatClampNeg (σ 69 b.toNatClampNeg + 1)) (e68 : ∀ c : Nat, (c : Int) < (σ 55 6).toInt → jrS σ' c = jSn (jrS σ) b.toInt.toNat c) (eL : (σ' 55 27).toInt = b.toInt) (eD : (σ' 55 26).toInt = (σ 55 26).toInt + 1) (d12 : (σ 55 26).toInt < 12) (dT : (σ 55 26).toInt < (σ 55 12).toInt) (eO : (σ' 55 25).toInt = (σ 55 25).toInt + e) (u : jqRu σ σ') : jrU σ' r E C S x = jrNu σ r E C S b.toInt.toNat e x := by
  have l := jrP.goes2 q h mb b0 b1 e69 e68 d12
  have p := q.q.pq u
  have c := q.q.chr
  obtain ⟨⟨a1, a2, a3, a4, a5, a6⟩, c1, c2, c3, c4, c5, c6, c7, c8⟩ := q
  unfold jrU jrNu
  rw [p, c.1, c.2, a4, c3, c4, eL, eD, eO, show ((b.toInt.toNat : Nat) : Int) = b.toInt by omega]
  exact jU_eq jrPq_P _ _ _ _ _ _ _ _ _ (fun c hc => ⟨(l c hc).2.1, (l c hc).1, (l c hc).2.2⟩) (by omega)
theorem jrU.fin {σ : Nat → Nat → Int32} {r x : Int} {E : Int → Int} {C : Int → Int → Int → Int → Int → Int} {S : Int → Int → Int} (h : jrP σ) (d12 : (σ 55 26).toInt ≤ 12) (e : ¬ ((σ 55 25).toInt < (σ 55 10).toInt ∧ (σ 55 26).toInt < (σ 55 12).toInt ∧ ∃ b : Int32, 0 ≤ b.toInt ∧ b.toInt < (σ 55 6).toInt ∧ jmb σ b = 1)) : jrU σ r E C S x = E x := by
  refine jU_end ?_
  by_cases c1 : (σ 55 12).toInt ≤ (σ 55 26).toInt
  · left; omega
  by_cases c2 : (σ 55 10).toInt ≤ (σ 55 25).toInt
  · exact Or.inr (Or.inl c2)
  refine Or.inr (Or.inr (Int.not_le.mp (fun z => e ⟨by omega, by omega, ?_⟩)))
  obtain ⟨_, f3, fm⟩ := jFi_may z
  generalize hc : (jFi (jMy4 (σ 55 27).toInt (jrLf σ))).toNat = c at fm
  have c4 : c < 4 := by omega
  have fm' := of_decide_eq_true fm
  have cn : (c : Int) < (σ 55 6).toInt := Int.not_le.mp (fun w => by have t := fm'.2; unfold jrLf jqLr at t; rw [if_neg (by omega)] at t; omega)
  have k := jofn4 c4
  refine ⟨Int32.ofNat c, by omega, by omega, ?_⟩
  rw [h.my (by omega) (by omega) d12, k.2.2]; exact fm
theorem jrU.on {σ : Nat → Nat → Int32} {r x b : Int} {E : Int → Int} {C : Int → Int → Int → Int → Int → Int} {S : Int → Int → Int} (wN : (σ 55 25).toInt < (σ 55 10).toInt) (dT : (σ 55 26).toInt < (σ 55 12).toInt) (hm : 0 ≤ jFi (jMy4 (σ 55 27).toInt (jrLf σ))) (hb : b = jrPv σ r) :
    jrU σ r E C S x = C (S x (jrRn σ b.toNat (σ 62 (σ 55 25).toInt.toNat).toInt (jrS σ b.toNat))) (jrRn σ b.toNat (σ 62 (σ 55 25).toInt.toNat).toInt (jrS σ b.toNat)) (jrCh σ b.toNat (σ 62 (σ 55 25).toInt.toNat).toInt (jrS σ b.toNat) (jrLf σ b.toNat) (σ 55 26).toInt (σ 55 25).toInt) (jrNu σ r E C S b.toNat 1 (S x (jrRn σ b.toNat (σ 62 (σ 55 25).toInt.toNat).toInt (jrS σ b.toNat)))) (jrNu σ r E C S b.toNat 0 (S x (jrRn σ b.toNat (σ 62 (σ 55 25).toInt.toNat).toInt (jrS σ b.toNat)))) := by
  unfold jrU jrNu
  rw [show ((σ 55 12).toInt - (σ 55 26).toInt).toNat = ((σ 55 12).toInt - ((σ 55 26).toInt + 1)).toNat + 1 by omega, jU, if_neg (by omega), show (σ 55 25).toInt + 0 = (σ 55 25).toInt by omega, hb]
  rfl
/-- who is picked may bowl -/
theorem jrP.pick {σ : Nat → Nat → Int32} {r : Int} {v : Int32} (h : jrP σ) (d12 : (σ 55 26).toInt ≤ 12) {B : Int32} (B0 : 0 ≤ B.toInt) (B1 : B.toInt < (σ 55 6).toInt) (hB : jmb σ B = 1) (wN : (σ 55 25).toInt < (σ 55 10).toInt) (dT : (σ 55 26).toInt < (σ 55 12).toInt) (hb : v.toInt = jrPv σ r) : 0 ≤ jFi (jMy4 (σ 55 27).toInt (jrLf σ)) ∧ (0 ≤ v.toInt ∧ v.toInt < (σ 55 6).toInt) ∧ jmb σ v = 1 := by
  have n4 := h.2.1
  have m := (h.my B0 B1 d12).mp hB
  have f := jFi_some (c := B.toInt.toNat) (by omega) m
  obtain ⟨p0, p3, pm⟩ := (jrPq_P (σ := σ) (r := r)).2 _ (jrLf σ) (jrS σ) _ _ wN dT f
  have hb : v.toInt = jrPq σ r (σ 55 27).toInt (jrLf σ) (jrS σ) (σ 55 26).toInt (σ 55 25).toInt := hb
  rw [← hb] at p0 p3 pm
  have pm' := of_decide_eq_true pm
  have cn : v.toInt < (σ 55 6).toInt := Int.not_le.mp (fun w => by have t := pm'.2; unfold jrLf jqLr at t; rw [if_neg (by omega)] at t; omega)
  exact ⟨f, ⟨p0, cn⟩, (h.my p0 cn d12).mpr pm⟩
noncomputable def jrMe (σ : Nat → Nat → Int32) (r : Int) : Int := jrU σ r (fun _ => 0) (fun _ r c p q => jMo (σ 55 13).toInt r c p q) (fun x _ => x) 0
noncomputable def jrNm (σ : Nat → Nat → Int32) (r : Int) (b : Nat) (e : Int) : Int := jrNu σ r (fun _ => 0) (fun _ r c p q => jMo (σ 55 13).toInt r c p q) (fun x _ => x) b e 0
noncomputable def jrLi (σ : Nat → Nat → Int32) (r x : Int) : Int := jrU σ r (fun x => if 0 < x then 1000000 else 0) (fun x _ c p q => jMx (σ 55 13).toInt (if 0 < x then 1000000 else 0) (jMx c p q)) (fun x r => x - r) x
noncomputable def jrNl (σ : Nat → Nat → Int32) (r : Int) (b : Nat) (e x : Int) : Int := jrNu σ r (fun x => if 0 < x then 1000000 else 0) (fun x _ c p q => jMx (σ 55 13).toInt (if 0 < x then 1000000 else 0) (jMx c p q)) (fun x r => x - r) b e x
theorem jrEq.nm {σ σ' : Nat → Nat → Int32} (h : jrEq σ σ') (e68 : σ' 68 = σ 68) (e69 : σ' 69 = σ 69) (e25 : σ' 55 25 = σ 55 25) (e26 : σ' 55 26 = σ 55 26) (u : jqRu σ σ') : jrNm σ' = jrNm σ ∧ jrNl σ' = jrNl σ := by
  have n := h.nu e68 e69 e25 e26 u
  have b5 : σ' 55 13 = σ 55 13 := h.2.2.2.2.2.1
  exact ⟨by funext r b e; unfold jrNm; rw [n, b5], by funext r b e x; unfold jrNl; rw [n, b5]⟩
theorem jrMe.next {σ σ' : Nat → Nat → Int32} {b : Int32} {r e : Int} (q : jrEq σ σ') (h : jrP σ) (mb : jmb σ b = 1) (b0 : 0 ≤ b.toInt) (b1 : b.toInt < (σ 55 6).toInt) (e69 : σ' 69 = jupd (σ 69) b.toNatClampNeg (σ 69 b.toNatClampNeg + 1)) (e68 : ∀ c : Nat, (c : Int) < (σ 55 6).toInt → jrS σ' c = jSn (jrS σ) b.toInt.toNat c) (eL : (σ' 55 27).toInt = b.toInt) (eD : (σ' 55 26).toInt = (σ 55 26).toInt + 1) (d12 : (σ 55 26).toInt < 12) (dT : (σ 55 26).toInt < (σ 55 12).toInt) (eO : (σ' 55 25).toInt = (σ 55 25).toInt + e) (u : jqRu σ σ') : jrMe σ' r = jrNm σ r b.toInt.toNat e ∧ ∀ x : Int, jrLi σ' r x = jrNl σ r b.toInt.toNat e x := by
  have b5 : σ' 55 13 = σ 55 13 := q.2.2.2.2.2.1
  refine ⟨?_, fun x => ?_⟩
  · unfold jrMe jrNm; rw [b5]; exact jrU.next q h mb b0 b1 e69 e68 eL eD d12 dT eO u
  · unfold jrLi jrNl; rw [b5]; exact jrU.next q h mb b0 b1 e69 e68 eL eD d12 dT eO u
theorem jrMe.fin {σ : Nat → Nat → Int32} {r : Int} (h : jrP σ) (d12 : (σ 55 26).toInt ≤ 12) (e : ¬ ((σ 55 25).toInt < (σ 55 10).toInt ∧ (σ 55 26).toInt < (σ 55 12).toInt ∧ ∃ b : Int32, 0 ≤ b.toInt ∧ b.toInt < (σ 55 6).toInt ∧ jmb σ b = 1)) : jrMe σ r = 0 ∧ ∀ x : Int, jrLi σ r x = if 0 < x then 1000000 else 0 := ⟨jrU.fin h d12 e, fun _ => jrU.fin h d12 e⟩
theorem jrMe.on {σ : Nat → Nat → Int32} {r b : Int} (wN : (σ 55 25).toInt < (σ 55 10).toInt) (dT : (σ 55 26).toInt < (σ 55 12).toInt) (hm : 0 ≤ jFi (jMy4 (σ 55 27).toInt (jrLf σ))) (hb : b = jrPv σ r) : jrMe σ r = jMo (σ 55 13).toInt (jrRn σ b.toNat (σ 62 (σ 55 25).toInt.toNat).toInt (jrS σ b.toNat)) (jrCh σ b.toNat (σ 62 (σ 55 25).toInt.toNat).toInt (jrS σ b.toNat) (jrLf σ b.toNat) (σ 55 26).toInt (σ 55 25).toInt) (jrNm σ r b.toNat 1) (jrNm σ r b.toNat 0) := jrU.on wN dT hm hb
theorem jrLi.on {σ : Nat → Nat → Int32} {r x b : Int} (wN : (σ 55 25).toInt < (σ 55 10).toInt) (dT : (σ 55 26).toInt < (σ 55 12).toInt) (hm : 0 ≤ jFi (jMy4 (σ 55 27).toInt (jrLf σ))) (hb : b = jrPv σ r) : jrLi σ r x = jMx (σ 55 13).toInt (if 0 < x - jrRn σ b.toNat (σ 62 (σ 55 25).toInt.toNat).toInt (jrS σ b.toNat) then 1000000 else 0) (jMx (jrCh σ b.toNat (σ 62 (σ 55 25).toInt.toNat).toInt (jrS σ b.toNat) (jrLf σ b.toNat) (σ 55 26).toInt (σ 55 25).toInt) (jrNl σ r b.toNat 1 (x - jrRn σ b.toNat (σ 62 (σ 55 25).toInt.toNat).toInt (jrS σ b.toNat))) (jrNl σ r b.toNat 0 (x - jrRn σ b.toNat (σ 62 (σ 55 25).toInt.toNat).toInt (jrS σ b.toNat)))) := jrU.on wN dT hm hb
/-! the reference's own: puts, mean, likely -/
/-- behind a book: who is put on -/
noncomputable def jrPw (σ : Nat → Nat → Int32) (r : Int) : Int := jrPq σ r (jbL (σ 80) (σ 55 47).toInt) (jbLf (σ 56) (σ 80) (σ 55 6).toInt (σ 55 47).toInt) (jbS (jbL (σ 80) (σ 55 47).toInt)) (σ 55 47).toInt (jcnt (σ 81) (σ 55 47).toInt.toNat : Int)
def jrEd (σ : Nat → Nat → Int32) : Prop := ¬ ((jcnt (σ 81) (σ 55 47).toInt.toNat : Int) < (σ 55 10).toInt ∧ (σ 55 47).toInt < (σ 55 12).toInt ∧ 0 ≤ jFi (jMy4 (jbL (σ 80) (σ 55 47).toInt) (jbLf (σ 56) (σ 80) (σ 55 6).toInt (σ 55 47).toInt)))
theorem jrBk {σ g u : Nat → Nat → Int32} {n c : Int} (q : jqEq σ u) (rb : jRb (σ 80) (g 69) n (g 55 27).toInt) (rs : ∀ c : Nat, (c : Int) < (σ 55 6).toInt → jrS g c = jbS (jbL (σ 80) n) c) (e68 : u 68 = g 68) (e69 : u 69 = g 69) (e25 : (u 55 25).toInt = c) (e26 : (u 55 26).toInt = n) (e27 : u 55 27 = g 55 27) (n0 : 0 ≤ n) (n12 : n ≤ 12) (w : (σ 55 30).toInt = -1) (o : (σ 55 31).toInt = -1) (ok : jOk (σ 56)) (w68 : ∀ k : Nat, k < 4 → 0 ≤ (u 68 k).toInt ∧ (u 68 k).toInt ≤ 3) (h4 : (σ 55 6).toInt ≤ 4) (h12 : (σ 55 12).toInt ≤ 12) (h8 : (σ 55 10).toInt ≤ 8) :
    jrP u ∧ ((∃ b : Int32, 0 ≤ b.toInt ∧ b.toInt < (u 55 6).toInt ∧ jmb u b = 1) ↔ 0 ≤ jFi (jMy4 (jbL (σ 80) n) (jbLf (σ 56) (σ 80) (σ 55 6).toInt n))) ∧ (jqRu σ u → c < (σ 55 10).toInt → n < (σ 55 12).toInt → ∀ r : Int, jrPv u r = jrPq σ r (jbL (σ 80) n) (jbLf (σ 56) (σ 80) (σ 55 6).toInt n) (jbS (jbL (σ 80) n)) n c) := by
  have q0 := q
  obtain ⟨⟨a1, a2, a3, a4, a5, a6⟩, b1, b2, b3, b4, b5, b6, b7⟩ := q
  have p := jrP.bk (σ := u) (f := σ 80) (n := n) (by rw [e69, e27]; exact rb) e26 n0 n12 (by rw [b6]; exact w) (by rw [b7]; exact o) (by rw [a1]; exact ok) w68 (by rw [b1]; exact h4) (by rw [b4]; exact h12) (by rw [b3]; exact h8)
  have lf : ∀ c : Nat, c < 4 → jrLf u c = jbLf (σ 56) (σ 80) (σ 55 6).toInt n c := fun c hc => by rw [p.2 c hc, a1, b1]
  have la : (u 55 27).toInt = jbL (σ 80) n := by rw [e27, rb.2]; rfl
  have mm : ∀ c : Nat, c < 4 → jMy4 (u 55 27).toInt (jrLf u) c = jMy4 (jbL (σ 80) n) (jbLf (σ 56) (σ 80) (σ 55 6).toInt n) c := fun c hc => by unfold jMy4; rw [la, lf c hc]
  refine ⟨p.1, ?_, fun ru wN dT r => ?_⟩
  · rw [← jFi_eq mm]
    constructor
    · rintro ⟨b, b0, bn, hb⟩
      exact jFi_some (c := b.toInt.toNat) (by rw [b1] at bn; omega) ((p.1.my b0 bn (by omega)).mp hb)
    · intro z
      obtain ⟨_, f3, fm⟩ := jFi_may z
      generalize hc : (jFi (jMy4 (u 55 27).toInt (jrLf u))).toNat = c at fm
      have c4 : c < 4 := by omega
      have fm' := of_decide_eq_true fm
      have cn : (c : Int) < (u 55 6).toInt := Int.not_le.mp (fun w => by have t := fm'.2; unfold jrLf jqLr at t; rw [if_neg (by omega)] at t; omega)
      have k := jofn4 c4
      refine ⟨Int32.ofNat c, by omega, by omega, ?_⟩
      rw [p.1.my (by omega) (by omega) (by omega), k.2.2]; exact fm
  · unfold jrPv
    rw [q0.pq ru, la, e26, e25]
    refine (jrPq_P (σ := σ) (r := r)).1 _ _ _ _ _ _ _ (fun x hx => ⟨jqLr_0 x, lf x hx, fun z => ?_⟩) wN dT
    by_cases e : (x : Int) < (σ 55 6).toInt
    · have s := rs x e
      unfold jrS at s ⊢; rw [e68]; exact s
    · unfold jrLf jqLr at z; rw [if_neg (by rw [b1]; exact e)] at z; omega
noncomputable def jrMnV (σ : Nat → Nat → Int32) (r L : Int) (lf st : Nat → Int) : Int := jMnV (jrPq σ r) (jrCh σ) (jrRn σ) (fun y => (σ 62 y).toInt) (σ 55 10).toInt (σ 55 13).toInt (σ 55 12).toInt L lf st 0 0
noncomputable def jrLkV (σ : Nat → Nat → Int32) (r L : Int) (lf st : Nat → Int) (x : Int) : Int := jLkV (jrPq σ r) (jrCh σ) (jrRn σ) (fun y => (σ 62 y).toInt) (σ 55 10).toInt (σ 55 13).toInt (σ 55 12).toInt L lf st 0 0 x
/-- from the beginning -/
theorem jrMe.now {σ u : Nat → Nat → Int32} {r : Int} (q : jqEq σ u) (ru : jqRu σ u) (T0 : 0 ≤ (σ 55 12).toInt) (e25 : (u 55 25).toInt = 0) (e26 : (u 55 26).toInt = 0) (e27 : (u 55 27).toInt = -1) (l : ∀ c : Nat, c < 4 → jrLf u c = jqLo (σ 56) (σ 55 6).toInt (-1) 0 c ∧ 0 ≤ jrLf u c ∧ jrS u c = 0) :
    jrMe u r = jrMnV σ r (-1) (jqLo (σ 56) (σ 55 6).toInt (-1) 0) (fun _ => 0) ∧ ∀ x : Int, jrLi u r x = jrLkV σ r (-1) (jqLo (σ 56) (σ 55 6).toInt (-1) 0) (fun _ => 0) x := by
  have p := q.pq ru
  have c := q.chr
  obtain ⟨⟨a1, a2, a3, a4, a5, a6⟩, b1, b2, b3, b4, b5, b6, b7⟩ := q
  refine ⟨?_, fun x => ?_⟩
  · unfold jrMe jrU jrMnV jMnV
    rw [p, c.1, c.2, a4, b3, b4, b5, e25, e26, e27]
    exact jU_eq (T := (σ 55 12).toInt) jrPq_P _ _ _ _ _ _ _ _ _ (fun c hc => ⟨(l c hc).2.1, (l c hc).1, fun _ => (l c hc).2.2⟩) (by omega)
  · unfold jrLi jrU jrLkV jLkV
    rw [p, c.1, c.2, a4, b3, b4, b5, e25, e26, e27]
    exact jU_eq (T := (σ 55 12).toInt) jrPq_P _ _ _ _ _ _ _ _ _ (fun c hc => ⟨(l c hc).2.1, (l c hc).1, fun _ => (l c hc).2.2⟩) (by omega)
/-! rules, both sides -/
def jRd1 (R n : Int) (d : Nat → Int) : Prop := (n = 0 ∧ R = 0) ∨ (1 ≤ n ∧ 0 < R ∧ n = jDl R ∧ ∀ i : Nat, (i : Int) < n → d i = R / 10 ^ (n - 1 - (i : Int)).toNat % 10 - 1)
def jRu (R K N D M : Nat → Int32) (n : Int) : Prop := ∀ r : Nat, (r : Int) < n → K r = M r ∧ jRd1 (R r).toInt (N r).toInt (fun i => (D (8 * r + i)).toInt)
theorem jRu.rd {σ : Nat → Nat → Int32} {n r p : Int} (h : jRu (σ 40) (σ 41) (σ 71) (σ 72) (σ 73) n) (r0 : 0 ≤ r) (rn : r < n) (p0 : 0 ≤ p) : jTd (σ 40 r.toNat).toInt p = jqRd σ r p := by
  obtain ⟨_, d⟩ := h r.toNat (by omega)
  unfold jTd jqRd
  rcases d with ⟨d1, d2⟩ | ⟨d1, d2, d3, d4⟩
  · rw [if_pos (by omega), if_pos d1]
  · rw [if_neg (by omega), if_neg (by omega), ← d3]
    have m0 := Int.emod_nonneg p (b := (σ 71 r.toNat).toInt) (by omega)
    have m1 := Int.emod_lt_of_pos p (b := (σ 71 r.toNat).toInt) (by omega)
    have z := d4 (p % (σ 71 r.toNat).toInt).toNat (by omega)
    rw [show (((p % (σ 71 r.toNat).toInt).toNat : Nat) : Int) = p % (σ 71 r.toNat).toInt by omega] at z
    rw [← z]
    show (σ 72 (8 * r.toNat + (p % (σ 71 r.toNat).toInt).toNat)).toInt = _
    rw [show 8 * r.toNat + (p % (σ 71 r.toNat).toInt).toNat = (8 * r + p % (σ 71 r.toNat).toInt).toNat by omega]
theorem jRu.fr {R K N D M R' K' N' D' M' : Nat → Int32} {n n' : Int} (h : jRu R K N D M n) (e1 : R' = R) (e2 : K' = K) (e3 : N' = N) (e4 : D' = D) (e5 : M' = M) (e6 : n' = n) : jRu R' K' N' D' M' n' := by
  subst e1 e2 e3 e4 e5 e6; exact h
/-- digits that stand, from place i on -/
def jRw (f g : Nat → Int32) (B R n i l : Int) : Prop := l = R / 10 ^ (n - 1 - i).toNat ∧ (∀ k : Nat, (k : Int) < B → g k = f k) ∧ ∀ j : Nat, i < (j : Int) → (j : Int) < n → (g (B + (j : Int)).toNat).toInt = R / 10 ^ (n - 1 - (j : Int)).toNat % 10 - 1
theorem jRw.first {f g : Nat → Int32} {B R n i l : Int} (e : g = f) (hi : i = n - 1) (hl : l = R) : jRw f g B R n i l := by
  subst e hi hl
  refine ⟨?_, fun _ _ => rfl, fun j h1 h2 => absurd h2 (by omega)⟩
  rw [show (n - 1 - (n - 1)).toNat = 0 by omega]
  show l = l / 10 ^ 0
  simp
theorem jRw.step {f g g' : Nat → Int32} {B R n i l i' l' K : Int} {v : Int32} (h : jRw f g B R n i l) (B0 : 0 ≤ B) (i0 : 0 ≤ i) (hin : i < n) (e : g' = jupd g K.toNat v) (eK : K = B + i) (hv : v.toInt = l % 10 - 1) (hl : l' = l / 10) (hi : i' = i - 1) : jRw f g' B R n i' l' := by
  obtain ⟨h1, h2, h3⟩ := h
  subst e eK hi
  refine ⟨jdiv10 h1 hl (by omega), fun k hk => by rw [jqup_ne (by omega)]; exact h2 k hk, fun j j1 j2 => ?_⟩
  by_cases c : (j : Int) = i
  · rw [show (B + (j : Int)).toNat = (B + i).toNat by omega, jqup_eq, hv, h1, show n - 1 - (j : Int) = n - 1 - i by omega]
  · rw [jqup_ne (by omega)]; exact h3 j (by omega) j2
theorem jDn_len : ∀ (n : Nat) (R : Int), jDn n R → (n = 0 ∧ R = 0) ∨ (1 ≤ n ∧ 10 ^ (n - 1) ≤ R ∧ R < 10 ^ n)
  | 0, _, h => Or.inl ⟨rfl, h⟩
  | n + 1, R, h => by
    obtain ⟨h1, h2, h3⟩ := h
    right
    refine ⟨by omega, ?_⟩
    rw [show n + 1 - 1 = n by omega, Int.pow_succ]
    rcases jDn_len n (R / 10) h3 with ⟨e, z⟩ | ⟨e, z1, z2⟩
    · subst e; simp; omega
    · obtain ⟨k, hk⟩ : ∃ k : Nat, n = k + 1 := ⟨n - 1, by omega⟩
      subst hk
      rw [show k + 1 - 1 = k by omega] at z1
      rw [Int.pow_succ] at z2 ⊢
      omega
theorem jDl_of {R : Int} {n : Nat} (n1 : 1 ≤ n) (n8 : n ≤ 8) (h1 : 10 ^ (n - 1) ≤ R) (h2 : R < 10 ^ n) : jDl R = (n : Int) := by
  have h9 : n = 1 ∨ n = 2 ∨ n = 3 ∨ n = 4 ∨ n = 5 ∨ n = 6 ∨ n = 7 ∨ n = 8 := by omega
  unfold jDl
  rcases h9 with rfl | rfl | rfl | rfl | rfl | rfl | rfl | rfl <;> simp at h1 h2 <;> (repeat' split) <;> omega
/-- a rule more -/
theorem jRu.on {R K N D M R' K' N' D' M' : Nat → Int32} {n n' A m i l : Int} {a k a2 k2 : Int32} (h : jRu R K N D M n) (n0 : 0 ≤ n) (e1 : R' = jupd R n.toNat a) (e2 : K' = jupd K n.toNat k) (e3 : N' = jupd N n.toNat a2) (e5 : M' = jupd M n.toNat k2) (w : jRw D D' (8 * n) A m i l) (hi : i < 0) (ha : a.toInt = A) (ha2 : a2.toInt = m) (hk : k = k2) (m0 : 0 ≤ m ∧ m ≤ 8) (dn : jDn m.toNat A) (e6 : n' = n + 1) : jRu R' K' N' D' M' n' := by
  subst e1 e2 e3 e5 e6 hk
  obtain ⟨_, w2, w3⟩ := w
  intro r hr
  by_cases c : r = n.toNat
  · rw [c, jqup_eq, jqup_eq, jqup_eq, jqup_eq]
    refine ⟨rfl, ?_⟩
    rw [ha, ha2]
    rcases jDn_len _ _ dn with ⟨z1, z2⟩ | ⟨z1, z2, z3⟩
    · exact Or.inl ⟨by omega, z2⟩
    · refine Or.inr ⟨by omega, ?_, ?_, fun j hj => ?_⟩
      · have := jpow10 (m.toNat - 1); omega
      · rw [jDl_of z1 (by omega) z2 z3]; omega
      · have q := w3 j (by omega) hj
        rw [show (8 * n + (j : Int)).toNat = 8 * n.toNat + j by omega] at q; exact q
  · rw [jqup_ne c, jqup_ne c, jqup_ne c, jqup_ne c]
    obtain ⟨q1, q2⟩ := h r (by omega)
    refine ⟨q1, ?_⟩
    rcases q2 with q2 | ⟨z1, z2, z3, z4⟩
    · exact Or.inl q2
    · refine Or.inr ⟨z1, z2, z3, fun j hj => ?_⟩
      have b : jDl (R r).toInt ≤ 8 := by unfold jDl; (repeat' split) <;> decide
      show (D' (8 * r + j)).toInt = _
      rw [w2 (8 * r + j) (by omega)]; exact z4 j hj
theorem jRu.nil {R K N D M : Nat → Int32} {n : Int} (h : n ≤ 0) : jRu R K N D M n := fun r hr => absurd hr (by omega)
/-! both sides: who is put on, mean, likely -/
theorem jqSm.q {σ : Nat → Nat → Int32} (h : jqSm σ) {n r : Int} (ru : jRu (σ 40) (σ 41) (σ 71) (σ 72) (σ 73) n) (kd : jKd (σ 39) (σ 70) n) (b0 : ∀ nm : Nat → Int32, jGc (σ 19) (σ 18 0).toInt nm = jGr (fun k : Nat => σ 64 (80 * 0 + k)) (σ 65 0).toInt nm) (hf : (σ 2 1).toInt = (σ 55 9).toInt) (f0 : 0 ≤ (σ 55 9).toInt ∧ (σ 55 9).toInt ≤ 3) (r0 : 0 ≤ r) (rn : r < n) {L : Int} {lf st : Nat → Int} {d w : Int} (lr : jLR (σ 55 6).toInt lf st) (d0 : 0 ≤ d) (dT : d < (σ 55 12).toInt) (w0 : 0 ≤ w) (wn : w < (σ 55 10).toInt) : jcQ σ (σ 2 1).toInt r L lf st d w = jrPq σ r L lf st d w := by
  obtain ⟨⟨hB, h4, hN, N8, hT, T12, hR⟩, num, tc, bl, so, s3, ok⟩ := h
  have k1 : σ 39 r.toNat = σ 70 r.toNat := kd r.toNat (by omega)
  have k2 := (ru r.toNat (by omega)).1
  unfold jcQ jrPq
  rw [k1, k2, hN, hR, hT]
  refine jPq_cong (B := (σ 55 6).toInt) (fun _ => ⟨ru.rd r0 rn (by decide), fun d d0 => ru.rd r0 rn d0⟩) (fun z hz => ⟨(show (σ 17 z).toInt = (σ 62 z).toInt by rw [so z (by omega)]), s3 z (by omega)⟩) (fun b s t l o w hb hB' hs ht hl ho hw => ?_) (fun b s t hb hB' hs ht => ?_) (fun _ _ _ _ _ _ b s t l o w p _ _ _ _ _ _ _ => ?_) lr d0 dT w0 wn
  · unfold jcCh jrCh jChv
    rw [hf, num _ (by omega) (Or.inl (by omega)), num _ (by omega) (Or.inr (by omega)), (tc _ (by omega)).1, bl]
  · unfold jcRn jrRn jRnv
    rw [hf, num _ (by omega) (Or.inr (by omega)), num _ (by omega) (Or.inr (by omega)), (tc _ (by omega)).2]
  · unfold jcTx jrTx
    rw [b0, k2]
    by_cases z : (σ 65 0).toInt < 0
    · rw [if_pos z, jGr_no z]; decide
    · rw [if_neg z]
theorem jqSm.u {σ : Nat → Nat → Int32} (h : jqSm σ) {n r : Int} (ru : jRu (σ 40) (σ 41) (σ 71) (σ 72) (σ 73) n) (kd : jKd (σ 39) (σ 70) n) (b0 : ∀ nm : Nat → Int32, jGc (σ 19) (σ 18 0).toInt nm = jGr (fun k : Nat => σ 64 (80 * 0 + k)) (σ 65 0).toInt nm) (hf : (σ 2 1).toInt = (σ 55 9).toInt) (f0 : 0 ≤ (σ 55 9).toInt ∧ (σ 55 9).toInt ≤ 3) (r0 : 0 ≤ r) (rn : r < n) {E : Int → Int} {C : Int → Int → Int → Int → Int → Int} {S : Int → Int → Int} (k : Nat) (L : Int) (lf st : Nat → Int) (d w x : Int) (lr : jLR (σ 55 6).toInt lf st) (d0 : 0 ≤ d) (dT : d + (k : Int) ≤ (σ 55 12).toInt) (w0 : 0 ≤ w) : jU (jcQ σ (σ 2 1).toInt r) (jcCh σ (σ 2 1).toInt) (jcRn σ (σ 2 1).toInt) (fun y => (σ 17 y).toInt) (σ 55 10).toInt E C S k L lf st d w x = jU (jrPq σ r) (jrCh σ) (jrRn σ) (fun y => (σ 62 y).toInt) (σ 55 10).toInt E C S k L lf st d w x := by
  have hh := h
  obtain ⟨⟨hB, h4, hN, N8, hT, T12, hR⟩, num, tc, bl, so, s3, ok⟩ := h
  have z : jPP (jcQ σ (σ 2 1).toInt r) (σ 16 0).toInt (σ 16 1).toInt := by unfold jcQ; exact jPq_P
  rw [hN, hT] at z
  refine jU_cong (B := (σ 55 6).toInt) (T := (σ 55 12).toInt) z (fun z hz => ⟨(show (σ 17 z).toInt = (σ 62 z).toInt by rw [so z (by omega)]), s3 z (by omega)⟩) (fun b s t l o w hb hB' hs ht hl ho hw => ?_) (fun b s t hb hB' hs ht => ?_) (fun L lf st d w lr d0 dT w0 wn => hh.q ru kd b0 hf f0 r0 rn lr d0 dT w0 wn) k L lf st d w x lr d0 dT w0
  · unfold jcCh jrCh jChv
    rw [hf, num _ (by omega) (Or.inl (by omega)), num _ (by omega) (Or.inr (by omega)), (tc _ (by omega)).1, bl]
  · unfold jcRn jrRn jRnv
    rw [hf, num _ (by omega) (Or.inr (by omega)), num _ (by omega) (Or.inr (by omega)), (tc _ (by omega)).2]
theorem jqSm.lo {σ : Nat → Nat → Int32} (h : jqSm σ) : jqLo (σ 3) (σ 2 0).toInt (-1) 0 = jqLo (σ 56) (σ 55 6).toInt (-1) 0 ∧ jLR (σ 55 6).toInt (jqLo (σ 56) (σ 55 6).toInt (-1) 0) (fun _ => 0) := by
  obtain ⟨⟨hB, h4, _⟩, num, _, _, _, _, ok⟩ := h
  refine ⟨?_, fun c hc => ⟨?_, (show (0 : Int) ≤ 0 ∧ (0 : Int) ≤ 3 by decide), fun z => ?_⟩⟩
  · funext c
    unfold jqLo
    rw [hB]
    by_cases z : (c : Int) < (σ 55 6).toInt
    · rw [if_pos z, if_pos z, num (32 + c) (by omega) (Or.inr (by omega))]
    · rw [if_neg z, if_neg z]
  · have a := ok c hc
    unfold jqLo
    rw [if_neg (show ¬ (c : Int) = -1 by omega)]
    split
    · unfold jmx; split <;> omega
    · omega
  · unfold jqLo
    rw [if_neg (show ¬ (c : Int) = -1 by omega), if_neg (by omega)]
theorem jqSm.me {σ : Nat → Nat → Int32} (h : jqSm σ) {n r : Int} (ru : jRu (σ 40) (σ 41) (σ 71) (σ 72) (σ 73) n) (kd : jKd (σ 39) (σ 70) n) (b0 : ∀ nm : Nat → Int32, jGc (σ 19) (σ 18 0).toInt nm = jGr (fun k : Nat => σ 64 (80 * 0 + k)) (σ 65 0).toInt nm) (hf : (σ 2 1).toInt = (σ 55 9).toInt) (f0 : 0 ≤ (σ 55 9).toInt ∧ (σ 55 9).toInt ≤ 3) (T0 : 0 ≤ (σ 55 12).toInt) (r0 : 0 ≤ r) (rn : r < n) : jcMnV σ (σ 2 1).toInt r (-1) (jqLo (σ 3) (σ 2 0).toInt (-1) 0) (fun _ => 0) = jrMnV σ r (-1) (jqLo (σ 56) (σ 55 6).toInt (-1) 0) (fun _ => 0) ∧ ∀ x : Int, jcLkV σ (σ 2 1).toInt r (-1) (jqLo (σ 3) (σ 2 0).toInt (-1) 0) (fun _ => 0) x = jrLkV σ r (-1) (jqLo (σ 56) (σ 55 6).toInt (-1) 0) (fun _ => 0) x := by
  have lo := h.lo
  have hh := h
  obtain ⟨⟨hB, h4, hN, N8, hT, T12, hR⟩, _⟩ := h
  refine ⟨?_, fun x => ?_⟩
  · unfold jcMnV jrMnV jMnV
    rw [lo.1, hN, hR, hT]
    exact hh.u ru kd b0 hf f0 r0 rn _ _ _ _ _ _ _ lo.2 (by decide) (by omega) (by decide)
  · unfold jcLkV jrLkV jLkV
    rw [lo.1, hN, hR, hT]
    exact hh.u ru kd b0 hf f0 r0 rn _ _ _ _ _ _ _ lo.2 (by decide) (by omega) (by decide)
theorem jqSm.bk {σ : Nat → Nat → Int32} (h : jqSm σ) (hn : (σ 47 0).toInt = (σ 55 47).toInt) (n0 : 0 ≤ (σ 55 47).toInt) (bk : jBk (σ 48) (σ 80) (σ 49) (σ 81) (σ 55 47).toInt) : jbL (σ 48) (σ 47 0).toInt = jbL (σ 80) (σ 55 47).toInt ∧ (jcnt (σ 49) (σ 47 0).toInt.toNat : Int) = (jcnt (σ 81) (σ 55 47).toInt.toNat : Int) ∧ jbLf (σ 3) (σ 48) (σ 2 0).toInt (σ 47 0).toInt = jbLf (σ 56) (σ 80) (σ 55 6).toInt (σ 55 47).toInt ∧ jLR (σ 55 6).toInt (jbLf (σ 56) (σ 80) (σ 55 6).toInt (σ 55 47).toInt) (jbS (jbL (σ 80) (σ 55 47).toInt)) := by
  obtain ⟨⟨hB, h4, _⟩, num, _, _, _, _, ok⟩ := h
  refine ⟨?_, ?_, ?_, fun c hc => ⟨?_, ?_, fun z => ?_⟩⟩
  · unfold jbL; rw [hn]
    by_cases z : (σ 55 47).toInt ≤ 0
    · rw [if_pos z, if_pos z]
    · rw [if_neg z, if_neg z, (bk ((σ 55 47).toInt - 1).toNat (by omega)).1]
  · rw [hn, jcnt_cong _ (fun k hk => (bk k (by omega)).2)]
  · funext c
    unfold jbLf
    rw [hB, hn]
    by_cases z : (c : Int) < (σ 55 6).toInt
    · rw [if_pos z, if_pos z, num (32 + c) (by omega) (Or.inr (by omega)), jcn_cong _ (fun k hk => (bk k (by omega)).1)]
    · rw [if_neg z, if_neg z]
  · have a := ok c hc
    unfold jbLf jmx
    split
    · split <;> omega
    · omega
  · unfold jbS; split <;> omega
  · unfold jbLf; rw [if_neg (by omega)]
theorem jqSm.pu {σ : Nat → Nat → Int32} (h : jqSm σ) {n r : Int} (ru : jRu (σ 40) (σ 41) (σ 71) (σ 72) (σ 73) n) (kd : jKd (σ 39) (σ 70) n) (b0 : ∀ nm : Nat → Int32, jGc (σ 19) (σ 18 0).toInt nm = jGr (fun k : Nat => σ 64 (80 * 0 + k)) (σ 65 0).toInt nm) (hf : (σ 2 1).toInt = (σ 55 9).toInt) (f0 : 0 ≤ (σ 55 9).toInt ∧ (σ 55 9).toInt ≤ 3) (hn : (σ 47 0).toInt = (σ 55 47).toInt) (n0 : 0 ≤ (σ 55 47).toInt) (bk : jBk (σ 48) (σ 80) (σ 49) (σ 81) (σ 55 47).toInt) : (jcEd σ ↔ jrEd σ) ∧ (0 ≤ r → r < n → ¬ jrEd σ → jcPv σ r = jrPw σ r) := by
  have b := h.bk hn n0 bk
  have hh := h
  obtain ⟨⟨hB, h4, hN, N8, hT, T12, hR⟩, _⟩ := h
  refine ⟨?_, fun r0 rn e => ?_⟩
  · unfold jcEd jrEd; rw [b.1, b.2.1, b.2.2.1, hn, hN, hT]
  · have e := Classical.not_not.mp e
    unfold jcPv jrPw
    rw [b.1, b.2.1, b.2.2.1, hn]
    exact hh.q ru kd b0 hf f0 r0 rn b.2.2.2 n0 e.2.1 (by omega) e.1
theorem jqRd_r {σ : Nat → Nat → Int32} {r p : Int} (w71 : ∀ k : Nat, k < 20 → 0 ≤ (σ 71 k).toInt ∧ (σ 71 k).toInt ≤ 8) (w72 : ∀ k : Nat, k < 160 → 0 ≤ (σ 72 k).toInt ∧ (σ 72 k).toInt ≤ 3) (r0 : 0 ≤ r) (r9 : r < 20) : jqRd σ r p ≤ 3 := by
  unfold jqRd
  have a := w71 r.toNat (by omega)
  by_cases z : (σ 71 r.toNat).toInt = 0
  · rw [if_pos z]; decide
  · rw [if_neg z]
    have m0 := Int.emod_nonneg p (b := (σ 71 r.toNat).toInt) z
    have m1 := Int.emod_lt_of_pos p (b := (σ 71 r.toNat).toInt) (by omega)
    exact (w72 _ (by omega)).2
theorem jrPw_eq {σ u : Nat → Nat → Int32} (q : jqEq σ u) (ru : jqRu σ u) (e80 : u 80 = σ 80) (e81 : u 81 = σ 81) (e47 : u 55 47 = σ 55 47) : jrPw u = jrPw σ ∧ jrEd u = jrEd σ := by
  have p := q.pq ru
  obtain ⟨⟨a1, a2, a3, a4, a5, a6⟩, b1, b2, b3, b4, b5, b6, b7⟩ := q
  refine ⟨?_, ?_⟩
  · funext r; unfold jrPw; rw [p, e80, e81, e47, a1, b1]
  · unfold jrEd; rw [e80, e81, e47, a1, b1, b3, b4]
theorem jrMnV_eq {σ u : Nat → Nat → Int32} (q : jqEq σ u) (ru : jqRu σ u) : jrMnV u = jrMnV σ ∧ jrLkV u = jrLkV σ := by
  have p := q.pq ru
  have c := q.chr
  obtain ⟨⟨a1, a2, a3, a4, a5, a6⟩, b1, b2, b3, b4, b5, b6, b7⟩ := q
  refine ⟨?_, ?_⟩
  · funext r L lf st; unfold jrMnV; rw [p, c.1, c.2, a4, b3, b4, b5]
  · funext r L lf st x; unfold jrLkV; rw [p, c.1, c.2, a4, b3, b4, b5]
/-! games -/
def jzz (z : Int32) : Int32 := z * 1103515245 + 12345
def jlw (z : Int32) : Int32 := (z.toUInt32 >>> (Int32.toUInt32 8 &&& Int32.toUInt32 31)).toInt32 - (z.toUInt32 >>> (Int32.toUInt32 8 &&& Int32.toUInt32 31)).toInt32 / 1000 * 1000
/-- an over of a game, and what follows it if one gets out, and if not: how many overs, runs, what is led -/
def jGq (R d : Int) (b : Nat) (r c : Int) (z : Int32) (q1 q0 : Int × Int × (Nat → Int × Int × Int)) : Int × Int × (Nat → Int × Int × Int) :=
  if (jlw (jzz (jzz z))).toInt < R then (d + 1, r, fun i => if (i : Int) = d then ((b : Int), r, if (jlw (jzz z)).toInt < c then 1 else 0) else (0, 0, 0))
  else if (jlw (jzz z)).toInt < c then (q1.1, r + q1.2.1, fun i => if (i : Int) = d then ((b : Int), r, 1) else q1.2.2 i)
  else (q0.1, r + q0.2.1, fun i => if (i : Int) = d then ((b : Int), r, 0) else q0.2.2 i)
def jGm (P : Int → (Nat → Int) → (Nat → Int) → Int → Int → Int) (ch : Nat → Int → Int → Int → Int → Int → Int) (rn : Nat → Int → Int → Int) (so : Nat → Int) (n R : Int) : Nat → Int → (Nat → Int) → (Nat → Int) → Int → Int → Int32 → Int × Int × (Nat → Int × Int × Int)
  | 0, _, _, _, d, _, _ => (d, 0, fun _ => (0, 0, 0))
  | k + 1, L, lf, st, d, w, z => if n ≤ w ∨ jFi (jMy4 L lf) < 0 then (d, 0, fun _ => (0, 0, 0)) else
      (fun b : Nat => jGq R d b (rn b (so w.toNat) (st b)) (ch b (so w.toNat) (st b) (lf b) d w) z (jGm P ch rn so n R k (b : Int) (jLn lf b) (jSn st b) (d + 1) (w + 1) (jzz (jzz z))) (jGm P ch rn so n R k (b : Int) (jLn lf b) (jSn st b) (d + 1) w (jzz (jzz z)))) (P L lf st d w).toNat
theorem jGm_end {P : Int → (Nat → Int) → (Nat → Int) → Int → Int → Int} {ch : Nat → Int → Int → Int → Int → Int → Int} {rn : Nat → Int → Int → Int} {so : Nat → Int} {n R : Int} {k : Nat} {L : Int} {lf st : Nat → Int} {d w : Int} {z : Int32} (h : k = 0 ∨ n ≤ w ∨ jFi (jMy4 L lf) < 0) : jGm P ch rn so n R k L lf st d w z = (d, 0, fun _ => (0, 0, 0)) := by
  cases k with
  | zero => rfl
  | succ k => rw [jGm, if_pos (by omega)]
theorem jGm_eq {P : Int → (Nat → Int) → (Nat → Int) → Int → Int → Int} {ch : Nat → Int → Int → Int → Int → Int → Int} {rn : Nat → Int → Int → Int} {so : Nat → Int} {n R T : Int} (hP : jPP P n T) :
    ∀ (k : Nat) (L : Int) (lf lf' st st' : Nat → Int) (d w : Int) (z : Int32), jKq L lf lf' st st' → d + (k : Int) ≤ T → jGm P ch rn so n R k L lf st d w z = jGm P ch rn so n R k L lf' st' d w z
  | 0, _, _, _, _, _, _, _, _, _, _ => rfl
  | k + 1, L, lf, lf', st, st', d, w, z, q, hT => by
    rw [jGm, jGm]
    have hm := jFi_eq q.my
    rw [← hm]
    by_cases c : n ≤ w ∨ jFi (jMy4 L lf) < 0
    · rw [if_pos c, if_pos c]
    rw [if_neg c, if_neg c, ← hP.1 L lf lf' st st' d w q (by omega) (by omega)]
    obtain ⟨b0, b3, mb⟩ := hP.2 L lf st d w (by omega) (by omega) (by omega)
    generalize hb : (P L lf st d w).toNat = b at mb ⊢
    have b4 : b < 4 := by omega
    have mb := of_decide_eq_true mb
    obtain ⟨q0, q1, q2⟩ := q b b4
    show jGq _ _ _ _ _ _ _ _ = jGq _ _ _ _ _ _ _ _
    rw [← q2 mb.2, ← q1, jGm_eq hP k (b : Int) (jLn lf b) (jLn lf' b) (jSn st b) (jSn st' b) (d + 1) (w + 1) _ (q.next b4 mb.2) (by omega), jGm_eq hP k (b : Int) (jLn lf b) (jLn lf' b) (jSn st b) (jSn st' b) (d + 1) w _ (q.next b4 mb.2) (by omega)]
theorem jGm_cong {P P' : Int → (Nat → Int) → (Nat → Int) → Int → Int → Int} {ch ch' : Nat → Int → Int → Int → Int → Int → Int} {rn rn' : Nat → Int → Int → Int} {so so' : Nat → Int} {n R B T : Int} (hP : jPP P n T)
    (hs : ∀ z : Nat, (z : Int) < n → so z = so' z ∧ 0 ≤ so z ∧ so z ≤ 3)
    (hc : ∀ (b : Nat) (s t l o w : Int), b < 4 → (b : Int) < B → (0 ≤ s ∧ s ≤ 3) → (0 ≤ t ∧ t ≤ 3) → (0 ≤ l ∧ l ≤ 15) → (0 ≤ o ∧ o < T) → (0 ≤ w ∧ w < n) → ch b s t l o w = ch' b s t l o w) (hr : ∀ (b : Nat) (s t : Int), b < 4 → (b : Int) < B → (0 ≤ s ∧ s ≤ 3) → (0 ≤ t ∧ t ≤ 3) → rn b s t = rn' b s t)
    (hQ : ∀ (L : Int) (lf st : Nat → Int) (d w : Int), jLR B lf st → 0 ≤ d → d < T → 0 ≤ w → w < n → P L lf st d w = P' L lf st d w) :
    ∀ (k : Nat) (L : Int) (lf st : Nat → Int) (d w : Int) (z : Int32), jLR B lf st → 0 ≤ d → d + (k : Int) ≤ T → 0 ≤ w → jGm P ch rn so n R k L lf st d w z = jGm P' ch' rn' so' n R k L lf st d w z
  | 0, _, _, _, _, _, _, _, _, _, _ => rfl
  | k + 1, L, lf, st, d, w, z, lr, d0, hT, w0 => by
    rw [jGm, jGm]
    by_cases c : n ≤ w ∨ jFi (jMy4 L lf) < 0
    · rw [if_pos c, if_pos c]
    rw [if_neg c, if_neg c, ← hQ L lf st d w lr d0 (by omega) w0 (by omega)]
    obtain ⟨b0, b3, mb⟩ := hP.2 L lf st d w (by omega) (by omega) (by omega)
    generalize hb : (P L lf st d w).toNat = b at mb ⊢
    have b4 : b < 4 := by omega
    have mb := of_decide_eq_true mb
    obtain ⟨f1, f2, f3⟩ := lr b b4
    have bB : (b : Int) < B := Int.not_le.mp (fun z => by have := f3 z; omega)
    obtain ⟨s1, s2, s3⟩ := hs w.toNat (by omega)
    show jGq _ _ _ _ _ _ _ _ = jGq _ _ _ _ _ _ _ _
    rw [← s1, ← hc b _ _ _ _ _ b4 bB ⟨s2, s3⟩ f2 f1 ⟨d0, by omega⟩ ⟨w0, by omega⟩, ← hr b _ _ b4 bB ⟨s2, s3⟩ f2, jGm_cong hP hs hc hr hQ k _ _ _ _ _ _ (lr.next b4 mb.2) (by omega) (by omega) (by omega), jGm_cong hP hs hc hr hQ k _ _ _ _ _ _ (lr.next b4 mb.2) (by omega) (by omega) (by omega)]
/-- one over on -/
theorem jGm_on {P : Int → (Nat → Int) → (Nat → Int) → Int → Int → Int} {ch : Nat → Int → Int → Int → Int → Int → Int} {rn : Nat → Int → Int → Int} {so : Nat → Int} {n R T : Int} {L d w b : Int} {lf st : Nat → Int} {z : Int32} (dT : d < T) (wn : w < n) (hm : 0 ≤ jFi (jMy4 L lf)) (hb : b = P L lf st d w) :
    jGm P ch rn so n R (T - d).toNat L lf st d w z = jGq R d b.toNat (rn b.toNat (so w.toNat) (st b.toNat)) (ch b.toNat (so w.toNat) (st b.toNat) (lf b.toNat) d w) z (jGm P ch rn so n R (T - (d + 1)).toNat ((b.toNat : Nat) : Int) (jLn lf b.toNat) (jSn st b.toNat) (d + 1) (w + 1) (jzz (jzz z))) (jGm P ch rn so n R (T - (d + 1)).toNat ((b.toNat : Nat) : Int) (jLn lf b.toNat) (jSn st b.toNat) (d + 1) w (jzz (jzz z))) := by
  rw [show (T - d).toNat = (T - (d + 1)).toNat + 1 by omega, jGm, if_neg (by omega), hb]
/-- as far as it has come: A, B, C hold what is led -/
def jGi (G q : Int × Int × (Nat → Int × Int × Int)) (d sum : Int) (A B C : Nat → Int32) : Prop := G.1 = q.1 ∧ G.2.1 = sum + q.2.1 ∧ ∀ i : Nat, G.2.2 i = if (i : Int) < d then ((A i).toInt, (B i).toInt, (C i).toInt) else q.2.2 i
/-- at its end -/
def jGe (G : Int × Int × (Nat → Int × Int × Int)) (N sum : Int) (A B C : Nat → Int32) : Prop := G.1 = N ∧ G.2.1 = sum ∧ ∀ i : Nat, (i : Int) < N → G.2.2 i = ((A i).toInt, (B i).toInt, (C i).toInt)
theorem jGi.first {G : Int × Int × (Nat → Int × Int × Int)} {d sum : Int} {A B C : Nat → Int32} (hd : d = 0) (hs : sum = 0) : jGi G G d sum A B C := by
  subst hd hs
  exact ⟨rfl, by omega, fun i => by rw [if_neg (by omega)]⟩
theorem jGi.fin {G : Int × Int × (Nat → Int × Int × Int)} {d sum N : Int} {A B C : Nat → Int32} (h : jGi G (d, 0, fun _ => (0, 0, 0)) d sum A B C) (e : N = d) : jGe G N sum A B C := by
  subst e
  refine ⟨h.1, ?_, fun i hi => ?_⟩
  · have := h.2.1; simp only at this; omega
  · rw [h.2.2 i, if_pos hi]
theorem jGi.step {G q1 q0 : Int × Int × (Nat → Int × Int × Int)} {R d r c sum d' sum' : Int} {b : Nat} {z vb vr vo : Int32} {A B C A' B' C' : Nat → Int32} (h : jGi G (jGq R d b r c z q1 q0) d sum A B C) (d0 : 0 ≤ d) (e1 : A' = jupd A d.toNat vb) (e2 : B' = jupd B d.toNat vr) (e3 : C' = jupd C d.toNat vo) (hb : vb.toInt = (b : Int)) (hr : vr.toInt = r) (ho : ((jlw (jzz z)).toInt < c ∧ vo.toInt = 1) ∨ (¬ (jlw (jzz z)).toInt < c ∧ vo.toInt = 0)) (hd : d' = d + 1) (hs : sum' = sum + r) :
    ((jlw (jzz (jzz z))).toInt < R → jGe G d' sum' A' B' C') ∧ (¬ (jlw (jzz (jzz z))).toInt < R → jGi G (if (jlw (jzz z)).toInt < c then q1 else q0) d' sum' A' B' C') := by
  subst e1 e2 e3 hd hs
  obtain ⟨h1, h2, h3⟩ := h
  have pr : ∀ i : Nat, (i : Int) < d + 1 → ¬ (i : Int) < d → i = d.toNat := fun i _ _ => by omega
  refine ⟨fun t => ?_, fun t => ?_⟩
  · unfold jGq at h1 h2 h3
    rw [if_pos t] at h1 h2
    refine ⟨h1, h2, fun i hi => ?_⟩
    have k := h3 i
    rw [if_pos t] at k
    rw [k]
    by_cases e : (i : Int) < d
    · rw [if_pos e, jqup_ne (by omega), jqup_ne (by omega), jqup_ne (by omega)]
    · have ei := pr i hi e
      rw [if_neg e, ei, jqup_eq, jqup_eq, jqup_eq]
      show (if ((d.toNat : Nat) : Int) = d then _ else _) = _
      rw [if_pos (by omega), hb, hr]
      rcases ho with ⟨o1, o2⟩ | ⟨o1, o2⟩
      · rw [if_pos o1, o2]
      · rw [if_neg o1, o2]
  · unfold jGq at h1 h2 h3
    rw [if_neg t] at h1 h2
    have h3 : ∀ i : Nat, G.2.2 i = if (i : Int) < d then ((A i).toInt, (B i).toInt, (C i).toInt) else (if (jlw (jzz z)).toInt < c then (q1.1, r + q1.2.1, fun i : Nat => if (i : Int) = d then ((b : Int), r, 1) else q1.2.2 i) else (q0.1, r + q0.2.1, fun i : Nat => if (i : Int) = d then ((b : Int), r, 0) else q0.2.2 i)).2.2 i := fun i => by
      have k := h3 i; rw [if_neg t] at k; exact k
    have go : ∀ (q : Int × Int × (Nat → Int × Int × Int)) (x : Int), vo.toInt = x → G.1 = q.1 → G.2.1 = sum + (r + q.2.1) → (∀ i : Nat, G.2.2 i = if (i : Int) < d then ((A i).toInt, (B i).toInt, (C i).toInt) else if (i : Int) = d then ((b : Int), r, x) else q.2.2 i) → jGi G q (d + 1) (sum + r) (jupd A d.toNat vb) (jupd B d.toNat vr) (jupd C d.toNat vo) := fun q x hx g1 g2 g3 => by
      refine ⟨g1, by omega, fun i => ?_⟩
      rw [g3 i]
      by_cases e : (i : Int) < d
      · rw [if_pos e, if_pos (by omega), jqup_ne (by omega), jqup_ne (by omega), jqup_ne (by omega)]
      · rw [if_neg e]
        by_cases e2 : (i : Int) = d
        · rw [if_pos e2, if_pos (by omega), show i = d.toNat by omega, jqup_eq, jqup_eq, jqup_eq, hb, hr, hx]
        · rw [if_neg e2, if_neg (by omega)]
    rcases ho with ⟨o1, o2⟩ | ⟨o1, o2⟩
    · rw [if_pos o1] at h1 h2 ⊢
      exact go q1 1 o2 h1 h2 (fun i => by have k := h3 i; rw [if_pos o1] at k; exact k)
    · rw [if_neg o1] at h1 h2 ⊢
      exact go q0 0 o2 h1 h2 (fun i => by have k := h3 i; rw [if_neg o1] at k; exact k)
/-! a game in the class -/
noncomputable def jcGk (u : Nat → Nat → Int32) (r : Int) (a : Int32) (d w : Int) (z : Int32) : Int × Int × (Nat → Int × Int × Int) := jGm (jcP u r) (jChc u) (jRnc u) (fun y => (u 17 y).toInt) (u 16 0).toInt (u 16 2).toInt ((u 16 1).toInt - d).toNat (jla a) (jlf a) (jst a) d w z
theorem jcEq.gk {σ u : Nat → Nat → Int32} (h : jcEq σ u) : jcGk u = jcGk σ := by
  have ⟨c1, c2, _⟩ := h.ch
  have p := h.p
  obtain ⟨⟨a1, a2, a3, a4, a5, a6, a7, a8⟩, _, _⟩ := h
  funext r a d w z
  unfold jcGk; rw [p, c1, c2, a1, a2]
theorem jcGk.fin {σ : Nat → Nat → Int32} {r d w : Int} {a z : Int32} (e : ¬ (w < (σ 16 0).toInt ∧ d < (σ 16 1).toInt ∧ ∃ b : Int32, jMb a b)) : jcGk σ r a d w z = (d, 0, fun _ => (0, 0, 0)) := by
  refine jGm_end ?_
  by_cases h1 : (σ 16 1).toInt ≤ d
  · left; omega
  by_cases h2 : (σ 16 0).toInt ≤ w
  · exact Or.inr (Or.inl h2)
  refine Or.inr (Or.inr (Int.not_le.mp (fun z => e ⟨by omega, by omega, jFi_mb.mp z⟩)))
theorem jcGk.step {σ : Nat → Nat → Int32} {r d w : Int} {a a2 b z : Int32} (dT : d < (σ 16 1).toInt) (wN : w < (σ 16 0).toInt) (mb : ∃ b : Int32, jMb a b) (hb : b.toInt = jcP σ r (jla a) (jlf a) (jst a) d w) (ag : 0 ≤ b.toInt → b.toInt ≤ 3 → jAg a b.toInt.toNat a2) :
    jcGk σ r a d w z = jGq (σ 16 2).toInt d b.toInt.toNat (jRnc σ b.toInt.toNat (σ 17 w.toNat).toInt (jst a b.toInt.toNat)) (jChc σ b.toInt.toNat (σ 17 w.toNat).toInt (jst a b.toInt.toNat) (jlf a b.toInt.toNat) d w) z (jcGk σ r a2 (d + 1) (w + 1) (jzz (jzz z))) (jcGk σ r a2 (d + 1) w (jzz (jzz z))) := by
  obtain ⟨⟨b0, b3⟩, my⟩ := jcM1.pick dT wN mb hb
  have g := ag b0 b3
  obtain ⟨l1, l2⟩ := g.ln my.2 (by omega)
  unfold jcGk
  rw [jGm_on (b := b.toInt) dT wN (jFi_mb.mpr mb) hb]
  have q : jKq ((b.toInt.toNat : Nat) : Int) (jlf a2) (jLn (jlf a) b.toInt.toNat) (jst a2) (jSn (jst a) b.toInt.toNat) := fun c hc => ⟨(l2 c hc).2.1, (l2 c hc).1, (l2 c hc).2.2⟩
  rw [l1, jGm_eq jcP_P _ _ _ _ _ _ _ _ _ q (by omega), jGm_eq jcP_P _ _ _ _ _ _ _ _ _ q (by omega)]
noncomputable def jcGv (σ : Nat → Nat → Int32) (f r L : Int) (lf st : Nat → Int) (z : Int32) : Int × Int × (Nat → Int × Int × Int) := jGm (jcQ σ f r) (jcCh σ f) (jcRn σ f) (fun y => (σ 17 y).toInt) (σ 16 0).toInt (σ 16 2).toInt (σ 16 1).toInt.toNat L lf st 0 0 z
theorem jqLw.gk {σ u : Nat → Nat → Int32} {f r : Int} (h : jqLw σ u f) (s3 : ∀ z : Nat, (z : Int) < (σ 16 0).toInt → 0 ≤ (σ 17 z).toInt ∧ (σ 17 z).toInt ≤ 3) {a z : Int32} {lf st : Nat → Int} (T0 : 0 ≤ (σ 16 1).toInt) (hl : ∀ c : Nat, c < 4 → jlf a c = lf c ∧ jst a c = st c) (hL : jla a = -1) : jcGk u r a 0 0 z = jcGv σ f r (-1) lf st z := by
  obtain ⟨ld, g, ⟨e16, e17, e18, e19⟩, e38⟩ := id h
  unfold jcGk jcGv
  have lr : jLR 4 (jlf a) (jst a) := fun c hc => ⟨jlf_r a c hc, jst_r a c hc, fun z => absurd z (by omega)⟩
  rw [hL, e16, e17, show ((σ 16 1).toInt - 0).toNat = (σ 16 1).toInt.toNat by omega]
  rw [jGm_cong (P := jcP u r) (P' := jcQ σ f r) (ch' := jcCh σ f) (rn' := jcRn σ f) (so' := fun y => (σ 17 y).toInt) (B := 4) (T := (σ 16 1).toInt) (by have z := jcP_P (u := u) (r := r); rw [e16] at z; exact z) (fun z hz => ⟨rfl, s3 z hz⟩) (fun b s t l o w hb _ hs ht _ _ _ => ld.ch g b s t l o w hb hs ht) (fun b s t hb _ hs ht => ld.rn b s t hb hs ht) (fun L lf st d w lr d0 dT w0 wn => h.q s3 lr d0 dT w0 wn) _ _ _ _ _ _ _ lr (by omega) (by omega) (by omega)]
  exact jGm_eq (T := (σ 16 1).toInt) jPq_P _ _ _ _ _ _ _ _ _ (fun c hc => ⟨(jlf_r a c hc).1, (hl c hc).1, fun _ => (hl c hc).2⟩) (by omega)
/-! a game in the reference -/
noncomputable def jrGk (u : Nat → Nat → Int32) (r : Int) (z : Int32) : Int × Int × (Nat → Int × Int × Int) := jGm (jrPq u r) (jrCh u) (jrRn u) (fun y => (u 62 y).toInt) (u 55 10).toInt (u 55 13).toInt ((u 55 12).toInt - (u 55 26).toInt).toNat (u 55 27).toInt (jrLf u) (jrS u) (u 55 26).toInt (u 55 25).toInt z
noncomputable def jrGn (σ : Nat → Nat → Int32) (r : Int) (b : Nat) (e : Int) (z : Int32) : Int × Int × (Nat → Int × Int × Int) := jGm (jrPq σ r) (jrCh σ) (jrRn σ) (fun y => (σ 62 y).toInt) (σ 55 10).toInt (σ 55 13).toInt ((σ 55 12).toInt - ((σ 55 26).toInt + 1)).toNat (b : Int) (jLn (jrLf σ) b) (jSn (jrS σ) b) ((σ 55 26).toInt + 1) ((σ 55 25).toInt + e) z
noncomputable def jrGv (σ : Nat → Nat → Int32) (r L : Int) (lf st : Nat → Int) (z : Int32) : Int × Int × (Nat → Int × Int × Int) := jGm (jrPq σ r) (jrCh σ) (jrRn σ) (fun y => (σ 62 y).toInt) (σ 55 10).toInt (σ 55 13).toInt (σ 55 12).toInt.toNat L lf st 0 0 z
theorem jrGk.eq {σ σ' : Nat → Nat → Int32} (h : jrEq σ σ') (e68 : σ' 68 = σ 68) (e69 : σ' 69 = σ 69) (e25 : σ' 55 25 = σ 55 25) (e26 : σ' 55 26 = σ 55 26) (e27 : σ' 55 27 = σ 55 27) (u : jqRu σ σ') : jrGk σ' = jrGk σ ∧ jrGn σ' = jrGn σ := by
  have p := h.q.pq u
  have c := h.ch e68 e69 e25 e26
  obtain ⟨⟨a1, a2, a3, a4, a5, a6⟩, b1, b2, b3, b4, b5, b6, b7, b8⟩ := h
  refine ⟨?_, ?_⟩
  · funext r z; unfold jrGk; rw [p, c.1, c.2.1, c.2.2.1, c.2.2.2, a4, b3, b4, b5, e25, e26, e27]
  · funext r b e z; unfold jrGn; rw [p, c.1, c.2.1, c.2.2.1, c.2.2.2, a4, b3, b4, b5, e25, e26]
theorem jrGk.next {σ σ' : Nat → Nat → Int32} {b : Int32} {r e : Int} {z : Int32} (q : jrEq σ σ') (h : jrP σ) (mb : jmb σ b = 1) (b0 : 0 ≤ b.toInt) (b1 : b.toInt < (σ 55 6).toInt) (e69 : σ' 69 = jupd (σ 69) b.toNatClampNeg (σ 69 b.toNatClampNeg + 1)) (e68 : ∀ c : Nat, (c : Int) < (σ 55 6).toInt → jrS σ' c = jSn (jrS σ) b.toInt.toNat c) (eL : (σ' 55 27).toInt = b.toInt) (eD : (σ' 55 26).toInt = (σ 55 26).toInt + 1) (d12 : (σ 55 26).toInt < 12) (dT : (σ 55 26).toInt < (σ 55 12).toInt) (eO : (σ' 55 25).toInt = (σ 55 25).toInt + e) (u : jqRu σ σ') : jrGk σ' r z = jrGn σ r b.toInt.toNat e z := by
  have l := jrP.goes2 q h mb b0 b1 e69 e68 d12
  have p := q.q.pq u
  have c := q.q.chr
  obtain ⟨⟨a1, a2, a3, a4, a5, a6⟩, c1, c2, c3, c4, c5, c6, c7, c8⟩ := q
  unfold jrGk jrGn
  rw [p, c.1, c.2, a4, c3, c4, c5, eL, eD, eO, show ((b.toInt.toNat : Nat) : Int) = b.toInt by omega]
  exact jGm_eq jrPq_P _ _ _ _ _ _ _ _ _ (fun c hc => ⟨(l c hc).2.1, (l c hc).1, (l c hc).2.2⟩) (by omega)
theorem jrGk.fin {σ : Nat → Nat → Int32} {r : Int} {z : Int32} (h : jrP σ) (d12 : (σ 55 26).toInt ≤ 12) (e : ¬ ((σ 55 25).toInt < (σ 55 10).toInt ∧ (σ 55 26).toInt < (σ 55 12).toInt ∧ ∃ b : Int32, 0 ≤ b.toInt ∧ b.toInt < (σ 55 6).toInt ∧ jmb σ b = 1)) : jrGk σ r z = ((σ 55 26).toInt, 0, fun _ => (0, 0, 0)) := by
  refine jGm_end ?_
  by_cases c1 : (σ 55 12).toInt ≤ (σ 55 26).toInt
  · left; omega
  by_cases c2 : (σ 55 10).toInt ≤ (σ 55 25).toInt
  · exact Or.inr (Or.inl c2)
  refine Or.inr (Or.inr (Int.not_le.mp (fun z => e ⟨by omega, by omega, ?_⟩)))
  obtain ⟨_, f3, fm⟩ := jFi_may z
  generalize hc : (jFi (jMy4 (σ 55 27).toInt (jrLf σ))).toNat = c at fm
  have c4 : c < 4 := by omega
  have fm' := of_decide_eq_true fm
  have cn : (c : Int) < (σ 55 6).toInt := Int.not_le.mp (fun w => by have t := fm'.2; unfold jrLf jqLr at t; rw [if_neg (by omega)] at t; omega)
  have k := jofn4 c4
  refine ⟨Int32.ofNat c, by omega, by omega, ?_⟩
  rw [h.my (by omega) (by omega) d12, k.2.2]; exact fm
theorem jrGk.on {σ : Nat → Nat → Int32} {r b : Int} {z : Int32} (wN : (σ 55 25).toInt < (σ 55 10).toInt) (dT : (σ 55 26).toInt < (σ 55 12).toInt) (hm : 0 ≤ jFi (jMy4 (σ 55 27).toInt (jrLf σ))) (hb : b = jrPv σ r) : jrGk σ r z = jGq (σ 55 13).toInt (σ 55 26).toInt b.toNat (jrRn σ b.toNat (σ 62 (σ 55 25).toInt.toNat).toInt (jrS σ b.toNat)) (jrCh σ b.toNat (σ 62 (σ 55 25).toInt.toNat).toInt (jrS σ b.toNat) (jrLf σ b.toNat) (σ 55 26).toInt (σ 55 25).toInt) z (jrGn σ r b.toNat 1 (jzz (jzz z))) (jrGn σ r b.toNat 0 (jzz (jzz z))) := by
  unfold jrGk jrGn
  rw [jGm_on dT wN hm hb, show (σ 55 25).toInt + 0 = (σ 55 25).toInt by omega] <;> rfl
theorem jrGk.now {σ u : Nat → Nat → Int32} {r : Int} {z : Int32} (q : jqEq σ u) (ru : jqRu σ u) (T0 : 0 ≤ (σ 55 12).toInt) (e25 : (u 55 25).toInt = 0) (e26 : (u 55 26).toInt = 0) (e27 : (u 55 27).toInt = -1) (l : ∀ c : Nat, c < 4 → jrLf u c = jqLo (σ 56) (σ 55 6).toInt (-1) 0 c ∧ 0 ≤ jrLf u c ∧ jrS u c = 0) : jrGk u r z = jrGv σ r (-1) (jqLo (σ 56) (σ 55 6).toInt (-1) 0) (fun _ => 0) z := by
  have p := q.pq ru
  have c := q.chr
  obtain ⟨⟨a1, a2, a3, a4, a5, a6⟩, b1, b2, b3, b4, b5, b6, b7⟩ := q
  unfold jrGk jrGv
  rw [p, c.1, c.2, a4, b3, b4, b5, e25, e26, e27, show ((σ 55 12).toInt - 0).toNat = (σ 55 12).toInt.toNat by omega]
  exact jGm_eq (T := (σ 55 12).toInt) jrPq_P _ _ _ _ _ _ _ _ _ (fun c hc => ⟨(l c hc).2.1, (l c hc).1, fun _ => (l c hc).2.2⟩) (by omega)
theorem jrGv_eq {σ u : Nat → Nat → Int32} (q : jqEq σ u) (ru : jqRu σ u) : jrGv u = jrGv σ := by
  have p := q.pq ru
  have c := q.chr
  obtain ⟨⟨a1, a2, a3, a4, a5, a6⟩, b1, b2, b3, b4, b5, b6, b7⟩ := q
  funext r L lf st z; unfold jrGv; rw [p, c.1, c.2, a4, b3, b4, b5]
/-! both sides -/
theorem jqSm.gv {σ : Nat → Nat → Int32} (h : jqSm σ) {n r : Int} (ru : jRu (σ 40) (σ 41) (σ 71) (σ 72) (σ 73) n) (kd : jKd (σ 39) (σ 70) n) (b0 : ∀ nm : Nat → Int32, jGc (σ 19) (σ 18 0).toInt nm = jGr (fun k : Nat => σ 64 (80 * 0 + k)) (σ 65 0).toInt nm) (hf : (σ 2 1).toInt = (σ 55 9).toInt) (f0 : 0 ≤ (σ 55 9).toInt ∧ (σ 55 9).toInt ≤ 3) (T0 : 0 ≤ (σ 55 12).toInt) (r0 : 0 ≤ r) (rn : r < n) {z : Int32} : jcGv σ (σ 2 1).toInt r (-1) (jqLo (σ 3) (σ 2 0).toInt (-1) 0) (fun _ => 0) z = jrGv σ r (-1) (jqLo (σ 56) (σ 55 6).toInt (-1) 0) (fun _ => 0) z := by
  have lo := h.lo
  have hh := h
  obtain ⟨⟨hB, h4, hN, N8, hT, T12, hR⟩, num, tc, bl, so, s3, ok⟩ := h
  have pp : jPP (jcQ σ (σ 2 1).toInt r) (σ 16 0).toInt (σ 16 1).toInt := by unfold jcQ; exact jPq_P
  rw [hN, hT] at pp
  unfold jcGv jrGv
  rw [lo.1, hN, hR, hT]
  refine jGm_cong (B := (σ 55 6).toInt) (T := (σ 55 12).toInt) pp (fun z hz => ⟨(show (σ 17 z).toInt = (σ 62 z).toInt by rw [so z (by omega)]), s3 z (by omega)⟩) (fun b s t l o w hb hB' hs ht hl ho hw => ?_) (fun b s t hb hB' hs ht => ?_) (fun L lf st d w lr d0 dT w0 wn => hh.q ru kd b0 hf f0 r0 rn lr d0 dT w0 wn) _ _ _ _ _ _ _ lo.2 (by decide) (by omega) (by decide)
  · unfold jcCh jrCh jChv
    rw [hf, num _ (by omega) (Or.inl (by omega)), num _ (by omega) (Or.inr (by omega)), (tc _ (by omega)).1, bl]
  · unfold jcRn jrRn jRnv
    rw [hf, num _ (by omega) (Or.inr (by omega)), num _ (by omega) (Or.inr (by omega)), (tc _ (by omega)).2]
/-- what a call of game does: p, p' how many overs are led, A B C what is led -/
def jqGa (r : Int) (ok : Prop) (T : Int) (G : Int × Int × (Nat → Int × Int × Int)) (p p' : Int) (A B C A' B' C' : Nat → Int32) : Prop := ((¬ ok ∧ r = -1) ∧ p' = p ∧ A' = A ∧ B' = B ∧ C' = C) ∨ (ok ∧ (((8 < T ∧ r = -4) ∧ p' = p ∧ A' = A ∧ B' = B ∧ C' = C) ∨ (T ≤ 8 ∧ jGe G p' r A' B' C')))
/-- what is led -/
def jLd9 (p : Int) (A B C A2 B2 C2 : Nat → Int32) : Prop := ∀ i : Nat, (i : Int) < p → A i = A2 i ∧ B i = B2 i ∧ C i = C2 i
theorem jLd9.nil {p : Int} {A B C A2 B2 C2 : Nat → Int32} (h : p ≤ 0) : jLd9 p A B C A2 B2 C2 := fun i hi => absurd hi (by omega)
theorem jqGa.same {r r' : Int} {ok : Prop} {T : Int} {G G' : Int × Int × (Nat → Int × Int × Int)} {p p' p2 p2' : Int} {A B C A' B' C' A2 B2 C2 A2' B2' C2' : Nat → Int32} (h : jqGa r ok T G p p' A B C A' B' C') (h2 : jqGa r' ok T G' p2 p2' A2 B2 C2 A2' B2' C2') (e : ok → T ≤ 8 → G = G') : r = r' ∧ (p = p2 → jLd9 p A B C A2 B2 C2 → p' = p2' ∧ jLd9 p' A' B' C' A2' B2' C2') := by
  rcases h with ⟨⟨a, b⟩, c1, c2, c3, c4⟩ | ⟨a, ⟨⟨b, c⟩, c1, c2, c3, c4⟩ | ⟨b, g1, g2, g3⟩⟩ <;> rcases h2 with ⟨⟨a', b'⟩, d1, d2, d3, d4⟩ | ⟨a', ⟨⟨b', c'⟩, d1, d2, d3, d4⟩ | ⟨b', k1, k2, k3⟩⟩
  all_goals first
    | exact absurd a a'
    | exact absurd a' a
    | omega
    | (subst c2 c3 c4 d2 d3 d4; exact ⟨by omega, fun q w => ⟨by omega, by rw [c1]; exact w⟩⟩)
    | skip
  have eg := e a b
  subst eg
  refine ⟨by omega, fun _ _ => ⟨by omega, fun i hi => ?_⟩⟩
  have x := (g3 i (by omega)).symm.trans (k3 i (by omega))
  have x1 := congrArg Prod.fst x
  have x2 := congrArg (fun q : Int × Int × Int => q.2.1) x
  have x3 := congrArg (fun q : Int × Int × Int => q.2.2) x
  exact ⟨Int32.toInt_inj.mp x1, Int32.toInt_inj.mp x2, Int32.toInt_inj.mp x3⟩
/-- an answer of led -/
def jqLe9 (r : Int32) (i x p : Int) (A B C : Nat → Int32) : Prop := (i = -1 ∧ x = 0 ∧ r.toInt = p) ∨ (¬ (i = -1 ∧ x = 0) ∧ ¬ (0 ≤ i ∧ i < p ∧ 0 ≤ x ∧ x ≤ 2) ∧ r = -1) ∨ (0 ≤ i ∧ i < p ∧ ((x = 0 ∧ r = A i.toNat) ∨ (x = 1 ∧ r = B i.toNat) ∨ (x = 2 ∧ r = C i.toNat)))
theorem jqLe9.same {r r' : Int32} {i x p p2 : Int} {A B C A2 B2 C2 : Nat → Int32} (h : jqLe9 r i x p A B C) (h' : jqLe9 r' i x p2 A2 B2 C2) (e : p = p2) (l : jLd9 p A B C A2 B2 C2) : r = r' := by
  subst e
  rcases h with ⟨a, b, c⟩ | ⟨a, b, c⟩ | ⟨a, b, c⟩ <;> rcases h' with ⟨a', b', c'⟩ | ⟨a', b', c'⟩ | ⟨a', b', c'⟩
  · exact Int32.toInt_inj.mp (by omega)
  · exact absurd ⟨a, b⟩ a'
  · omega
  · exact absurd ⟨a', b'⟩ a
  · rw [c, c']
  · exact absurd ⟨a', b', by omega, by omega⟩ b
  · omega
  · exact absurd ⟨a, b, by omega, by omega⟩ b'
  · obtain ⟨l1, l2, l3⟩ := l i.toNat (by omega)
    rcases c with ⟨c, d⟩ | ⟨c, d⟩ | ⟨c, d⟩ <;> rcases c' with ⟨c', d'⟩ | ⟨c', d'⟩ | ⟨c', d'⟩
    · rw [d, d', l1]
    · omega
    · omega
    · omega
    · rw [d, d', l2]
    · omega
    · omega
    · omega
    · rw [d, d', l3]
/-! their order: all orders of a few sorts -/
def jtI (f : Nat → Int) (n : Nat) : Nat → Nat → Nat
  | 0, i => i
  | k + 1, i => if i < n ∧ f (i - 1) ≤ f i then jtI f n k (i + 1) else i
def jtJ (f : Nat → Int) (i : Nat) : Nat → Nat → Nat
  | 0, j => j
  | k + 1, j => if j < i ∧ f j ≤ f i then jtJ f i k (j + 1) else j
def jtS (f : Nat → Int) (i j : Nat) : Nat → Int := fun k => if k = j then f i else if k = i then f j else f k
def jtR (f : Nat → Int) (i : Nat) : Nat → Int := fun k => if k < i then f (i - 1 - k) else f k
def jtT (f : Nat → Int) (n : Nat) : Nat → Int := if n ≤ jtI f n 8 1 then f else jtR (jtS f (jtI f n 8 1) (jtJ f (jtI f n 8 1) 8 0)) (jtI f n 8 1)
def jtL (f : Nat → Int) (n : Nat) : List Int := (List.range n).map f
def jtG (l : List Int) : Nat → Int := fun k => l.getD k 0
def jtD (f : Nat → Int) : Nat → Int
  | 0 => 0
  | n + 1 => 10 * jtD f n + f n
/-- the orders that are seen, as digits, turning on from one -/
def jvs : Nat → List Int → List Int
  | 0, _ => []
  | m + 1, l => jtD (jtG l) l.length :: (if l.length ≤ jtI (jtG l) l.length 8 1 then [] else jvs m (jtL (jtT (jtG l) l.length) l.length))
/-- all orders of so many of each sort, as digits, upwards -/
def jol : Nat → Int → Nat → Nat → Nat → Nat → List Int
  | 0, p, _, _, _, _ => [p]
  | k + 1, p, a, b, c, d => (if 0 < a then jol k (10 * p) (a - 1) b c d else []) ++ ((if 0 < b then jol k (10 * p + 1) a (b - 1) c d else []) ++ ((if 0 < c then jol k (10 * p + 2) a b (c - 1) d else []) ++ (if 0 < d then jol k (10 * p + 3) a b c (d - 1) else [])))
def jsd (a b c d : Nat) : List Int := List.replicate d 3 ++ (List.replicate c 2 ++ (List.replicate b 1 ++ List.replicate a 0))
def jup9 : List Int → Bool
  | x :: y :: r => decide (x < y) && jup9 (y :: r)
  | _ => true
def jolk (a b c d : Nat) : Bool := (jvs 120 (jsd a b c d)).all (fun x => (jol (a + b + c + d) 0 a b c d).elem x) && ((jol (a + b + c + d) 0 a b c d).all (fun x => (jvs 120 (jsd a b c d)).elem x) && jup9 (jol (a + b + c + d) 0 a b c d))
def jolc : Bool := (List.range 6).all fun a => (List.range 6).all fun b => (List.range 6).all fun c => (List.range 6).all fun d => if 1 ≤ a + b + c + d ∧ a + b + c + d ≤ 5 then jolk a b c d else true
theorem jolc_t : jolc = true := by decide +kernel
theorem jol_same {a b c d n : Nat} (hn : n = a + b + c + d) (n1 : 1 ≤ n) (n5 : n ≤ 5) : (∀ x : Int, x ∈ jvs 120 (jsd a b c d) ↔ x ∈ jol n 0 a b c d) ∧ jup9 (jol n 0 a b c d) = true := by
  subst hn
  have h := jolc_t
  unfold jolc at h
  have h := List.all_eq_true.mp h a (List.mem_range.mpr (by omega))
  have h := List.all_eq_true.mp h b (List.mem_range.mpr (by omega))
  have h := List.all_eq_true.mp h c (List.mem_range.mpr (by omega))
  have h := List.all_eq_true.mp h d (List.mem_range.mpr (by omega))
  rw [if_pos ⟨n1, n5⟩] at h
  unfold jolk at h
  rw [Bool.and_eq_true, Bool.and_eq_true, List.all_eq_true, List.all_eq_true] at h
  obtain ⟨h1, h2, h3⟩ := h
  refine ⟨fun x => ⟨fun z => ?_, fun z => ?_⟩, h3⟩
  · exact List.elem_iff.mp (h1 x z)
  · exact List.elem_iff.mp (h2 x z)
/-- the greatest, of like ones the least digits: class -/
def jfc (V : Int → Int) : Int × Int → List Int → Int × Int
  | s, [] => s
  | s, x :: r => jfc V (if s.1 < V x ∨ (V x = s.1 ∧ x < s.2) then (V x, x) else s) r
/-- the first greatest: reference -/
def jfr (V : Int → Int) : Int × Int → List Int → Int × Int
  | s, [] => s
  | s, x :: r => jfr V (if s.1 < V x then (V x, x) else s) r
theorem jfc_h {V : Int → Int} : ∀ (L : List Int) (s : Int × Int), s.1 ≤ (jfc V s L).1 ∧ (∀ x : Int, x ∈ L → V x < (jfc V s L).1 ∨ (V x = (jfc V s L).1 ∧ (jfc V s L).2 ≤ x)) ∧ (jfc V s L = s ∨ ((jfc V s L).2 ∈ L ∧ V (jfc V s L).2 = (jfc V s L).1)) ∧ ((jfc V s L).1 = s.1 → (jfc V s L).2 ≤ s.2)
  | [], s => ⟨Int.le_refl _, fun x h => absurd h (by simp), Or.inl rfl, fun _ => Int.le_refl _⟩
  | y :: r, s => by
    show s.1 ≤ (jfc V (if s.1 < V y ∨ (V y = s.1 ∧ y < s.2) then (V y, y) else s) r).1 ∧ (∀ x : Int, x ∈ y :: r → V x < (jfc V (if s.1 < V y ∨ (V y = s.1 ∧ y < s.2) then (V y, y) else s) r).1 ∨ (V x = (jfc V (if s.1 < V y ∨ (V y = s.1 ∧ y < s.2) then (V y, y) else s) r).1 ∧ (jfc V (if s.1 < V y ∨ (V y = s.1 ∧ y < s.2) then (V y, y) else s) r).2 ≤ x)) ∧ (jfc V (if s.1 < V y ∨ (V y = s.1 ∧ y < s.2) then (V y, y) else s) r = s ∨ ((jfc V (if s.1 < V y ∨ (V y = s.1 ∧ y < s.2) then (V y, y) else s) r).2 ∈ y :: r ∧ V (jfc V (if s.1 < V y ∨ (V y = s.1 ∧ y < s.2) then (V y, y) else s) r).2 = (jfc V (if s.1 < V y ∨ (V y = s.1 ∧ y < s.2) then (V y, y) else s) r).1)) ∧ ((jfc V (if s.1 < V y ∨ (V y = s.1 ∧ y < s.2) then (V y, y) else s) r).1 = s.1 → (jfc V (if s.1 < V y ∨ (V y = s.1 ∧ y < s.2) then (V y, y) else s) r).2 ≤ s.2)
    by_cases c : s.1 < V y ∨ (V y = s.1 ∧ y < s.2)
    · rw [if_pos c]
      obtain ⟨h1, h2, h3, h4⟩ := jfc_h r (V y, y)
      generalize jfc V (V y, y) r = t at h1 h2 h3 h4 ⊢
      simp only at h1 h4
      refine ⟨by omega, fun x hx => ?_, ?_, fun e => ?_⟩
      · rcases List.mem_cons.mp hx with rfl | hx
        · by_cases q : t.1 = V x
          · right; exact ⟨q.symm, h4 q⟩
          · left; omega
        · exact h2 x hx
      · rcases h3 with h3 | ⟨a, b⟩
        · right; rw [h3]; exact ⟨List.mem_cons_self, rfl⟩
        · exact Or.inr ⟨List.mem_cons_of_mem _ a, b⟩
      · rcases c with c | c
        · omega
        · have := h4 (by omega); omega
    · rw [if_neg c]
      obtain ⟨h1, h2, h3, h4⟩ := jfc_h r s
      generalize jfc V s r = t at h1 h2 h3 h4 ⊢
      refine ⟨h1, fun x hx => ?_, ?_, h4⟩
      · rcases List.mem_cons.mp hx with rfl | hx
        · by_cases q : V x < t.1
          · exact Or.inl q
          · right
            have e : t.1 = s.1 := by omega
            have := h4 e
            exact ⟨by omega, by omega⟩
        · exact h2 x hx
      · rcases h3 with h3 | ⟨a, b⟩
        · exact Or.inl h3
        · exact Or.inr ⟨List.mem_cons_of_mem _ a, b⟩
theorem jfr_h {V : Int → Int} : ∀ (L : List Int) (s : Int × Int), jup9 L = true → s.1 ≤ (jfr V s L).1 ∧ (∀ x : Int, x ∈ L → V x ≤ (jfr V s L).1) ∧ (jfr V s L = s ∨ ((jfr V s L).2 ∈ L ∧ V (jfr V s L).2 = (jfr V s L).1 ∧ s.1 < (jfr V s L).1)) ∧ (s.1 < (jfr V s L).1 → ∀ x : Int, x ∈ L → V x = (jfr V s L).1 → (jfr V s L).2 ≤ x)
  | [], s, _ => ⟨Int.le_refl _, fun x h => absurd h (by simp), Or.inl rfl, fun _ x h => absurd h (by simp)⟩
  | y :: r, s, hu => by
    have hr : jup9 r = true := by
      cases r with
      | nil => rfl
      | cons z r => rw [jup9, Bool.and_eq_true] at hu; exact hu.2
    have lt : ∀ x : Int, x ∈ r → y < x := jup9_lt r y hu
    show s.1 ≤ (jfr V (if s.1 < V y then (V y, y) else s) r).1 ∧ (∀ x : Int, x ∈ y :: r → V x ≤ (jfr V (if s.1 < V y then (V y, y) else s) r).1) ∧ (jfr V (if s.1 < V y then (V y, y) else s) r = s ∨ ((jfr V (if s.1 < V y then (V y, y) else s) r).2 ∈ y :: r ∧ V (jfr V (if s.1 < V y then (V y, y) else s) r).2 = (jfr V (if s.1 < V y then (V y, y) else s) r).1 ∧ s.1 < (jfr V (if s.1 < V y then (V y, y) else s) r).1)) ∧ (s.1 < (jfr V (if s.1 < V y then (V y, y) else s) r).1 → ∀ x : Int, x ∈ y :: r → V x = (jfr V (if s.1 < V y then (V y, y) else s) r).1 → (jfr V (if s.1 < V y then (V y, y) else s) r).2 ≤ x)
    by_cases c : s.1 < V y
    · rw [if_pos c]
      obtain ⟨h1, h2, h3, h4⟩ := jfr_h r (V y, y) hr
      generalize jfr V (V y, y) r = t at h1 h2 h3 h4 ⊢
      simp only at h1 h3 h4
      refine ⟨by omega, fun x hx => ?_, ?_, fun e x hx ev => ?_⟩
      · rcases List.mem_cons.mp hx with rfl | hx
        · exact h1
        · exact h2 x hx
      · rcases h3 with h3 | ⟨a, b, d⟩
        · right; rw [h3]; exact ⟨List.mem_cons_self, rfl, c⟩
        · exact Or.inr ⟨List.mem_cons_of_mem _ a, b, by omega⟩
      · rcases h3 with h3 | ⟨a, b, d⟩
        · rw [h3]
          rcases List.mem_cons.mp hx with rfl | hx
          · exact Int.le_refl _
          · exact Int.le_of_lt (lt x hx)
        · rcases List.mem_cons.mp hx with rfl | hx
          · omega
          · exact h4 d x hx ev
    · rw [if_neg c]
      obtain ⟨h1, h2, h3, h4⟩ := jfr_h r s hr
      generalize jfr V s r = t at h1 h2 h3 h4 ⊢
      refine ⟨h1, fun x hx => ?_, ?_, fun e x hx ev => ?_⟩
      · rcases List.mem_cons.mp hx with rfl | hx
        · omega
        · exact h2 x hx
      · rcases h3 with h3 | ⟨a, b, d⟩
        · exact Or.inl h3
        · exact Or.inr ⟨List.mem_cons_of_mem _ a, b, d⟩
      · rcases List.mem_cons.mp hx with rfl | hx
        · omega
        · exact h4 e x hx ev
where
  jup9_lt : ∀ (r : List Int) (y : Int), jup9 (y :: r) = true → ∀ x : Int, x ∈ r → y < x
  | [], _, _, x, h => absurd h (by simp)
  | z :: r, y, hu, x, h => by
    rw [jup9, Bool.and_eq_true] at hu
    have yz := of_decide_eq_true hu.1
    rcases List.mem_cons.mp h with rfl | h
    · exact yz
    · have := jup9_lt r z hu.2 x h; omega
theorem jfc_fr {V V' : Int → Int} {L L' : List Int} (hs : ∀ x : Int, x ∈ L ↔ x ∈ L') (hu : jup9 L' = true) (hV : ∀ x : Int, x ∈ L' → V x = V' x ∧ 0 ≤ V x) {y : Int} (hy : y ∈ L') {d0 e0 : Int} : jfc V (-1, d0) L = jfr V' (-1, e0) L' := by
  obtain ⟨a1, a2, a3, a4⟩ := jfc_h (V := V) L (-1, d0)
  obtain ⟨b1, b2, b3, b4⟩ := jfr_h (V := V') L' (-1, e0) hu
  generalize jfc V (-1, d0) L = s at a1 a2 a3 a4 ⊢
  generalize jfr V' (-1, e0) L' = t at b1 b2 b3 b4 ⊢
  simp only at a1 a3 a4 b1 b3 b4
  have vy := hV y hy
  have ay := a2 y ((hs y).mpr hy)
  have by' := b2 y hy
  have s0 : 0 ≤ s.1 := by omega
  have t0 : -1 < t.1 := by omega
  have sm : s.2 ∈ L ∧ V s.2 = s.1 := by
    rcases a3 with a3 | a3
    · rw [a3] at s0; exact absurd s0 (show ¬ (0 : Int) ≤ -1 by decide)
    · exact a3
  have tm : t.2 ∈ L' ∧ V' t.2 = t.1 := by
    rcases b3 with b3 | b3
    · rw [b3] at t0; exact absurd t0 (show ¬ (-1 : Int) < -1 by decide)
    · exact ⟨b3.1, b3.2.1⟩
  have e1 := (hV s.2 ((hs _).mp sm.1)).1
  have e2 := (hV t.2 tm.1).1
  have x1 := b2 s.2 ((hs _).mp sm.1)
  have x2 := a2 t.2 ((hs _).mpr tm.1)
  have eq1 : s.1 = t.1 := by omega
  have x3 := b4 t0 s.2 ((hs _).mp sm.1) (by omega)
  exact Prod.ext eq1 (by show s.2 = t.2; omega)
/-! their order: rows of sorts, digits -/
theorem jtL_len {f : Nat → Int} {n : Nat} : (jtL f n).length = n := by unfold jtL; rw [List.length_map, List.length_range]
theorem jtG_L {f : Nat → Int} {n k : Nat} (h : k < n) : jtG (jtL f n) k = f k := by
  unfold jtG jtL
  rw [List.getD_eq_getElem?_getD, List.getElem?_map, List.getElem?_range h]; rfl
theorem jtD_cong {f g : Nat → Int} : ∀ n : Nat, (∀ k : Nat, k < n → f k = g k) → jtD f n = jtD g n
  | 0, _ => rfl
  | n + 1, h => by
    show 10 * jtD f n + f n = 10 * jtD g n + g n
    rw [jtD_cong n (fun k hk => h k (by omega)), h n (by omega)]
theorem jtI_cong {f g : Nat → Int} {n : Nat} (h : ∀ k : Nat, k < n → f k = g k) : ∀ m i : Nat, jtI f n m i = jtI g n m i
  | 0, _ => rfl
  | m + 1, i => by
    show (if i < n ∧ f (i - 1) ≤ f i then jtI f n m (i + 1) else i) = (if i < n ∧ g (i - 1) ≤ g i then jtI g n m (i + 1) else i)
    by_cases c : i < n
    · rw [h i c, h (i - 1) (by omega), jtI_cong h m (i + 1)]
    · rw [if_neg (fun z => c z.1), if_neg (fun z => c z.1)]
theorem jtJ_cong {f g : Nat → Int} {n i : Nat} (h : ∀ k : Nat, k < n → f k = g k) (hi : i < n) : ∀ m j : Nat, jtJ f i m j = jtJ g i m j
  | 0, _ => rfl
  | m + 1, j => by
    show (if j < i ∧ f j ≤ f i then jtJ f i m (j + 1) else j) = (if j < i ∧ g j ≤ g i then jtJ g i m (j + 1) else j)
    by_cases c : j < i
    · rw [h i hi, h j (by omega), jtJ_cong h hi m (j + 1)]
    · rw [if_neg (fun z => c z.1), if_neg (fun z => c z.1)]
theorem jtJ_le {f : Nat → Int} {i : Nat} : ∀ m j : Nat, j ≤ i → jtJ f i m j ≤ i
  | 0, _, h => h
  | m + 1, j, h => by
    show (if j < i ∧ f j ≤ f i then jtJ f i m (j + 1) else j) ≤ i
    by_cases c : j < i ∧ f j ≤ f i
    · rw [if_pos c]; exact jtJ_le m (j + 1) (by omega)
    · rw [if_neg c]; exact h
theorem jtT_cong {f g : Nat → Int} {n : Nat} (h : ∀ k : Nat, k < n → f k = g k) : ∀ k : Nat, k < n → jtT f n k = jtT g n k := by
  intro k hk
  unfold jtT
  rw [jtI_cong h 8 1]
  by_cases c : n ≤ jtI g n 8 1
  · rw [if_pos c, if_pos c]; exact h k hk
  · rw [if_neg c, if_neg c]
    generalize jtI g n 8 1 = i at c
    have hi : i < n := by omega
    rw [jtJ_cong h hi 8 0]
    have hj : jtJ g i 8 0 ≤ i := jtJ_le 8 0 (by omega)
    generalize jtJ g i 8 0 = j at hj
    have s : ∀ k : Nat, k < n → jtS f i j k = jtS g i j k := fun k hk => by unfold jtS; rw [h i hi, h j (by omega), h k hk]
    unfold jtR
    by_cases e : k < i
    · rw [if_pos e, if_pos e]; exact s _ (by omega)
    · rw [if_neg e, if_neg e]; exact s _ hk
theorem jvs_on {f : Nat → Int} {n m : Nat} : jvs (m + 1) (jtL f n) = jtD f n :: (if n ≤ jtI f n 8 1 then [] else jvs m (jtL (jtT f n) n)) := by
  have h : ∀ k : Nat, k < n → jtG (jtL f n) k = f k := fun k hk => jtG_L hk
  rw [jvs, jtL_len, jtD_cong n h, jtI_cong h 8 1]
  have e : jtL (jtT (jtG (jtL f n)) n) n = jtL (jtT f n) n := by
    show (List.range n).map _ = (List.range n).map _
    exact List.map_congr_left (fun k hk => jtT_cong h k (List.mem_range.mp hk))
  rw [e]
/-- one order on -/
theorem jvT.step {V : Int → Int} {R0 : Int × Int} {most digits n N changed' most' digits' v x : Int} {f f' : Nat → Int} (h : R0 = jfc V (most, digits) (jvs (120 - n).toNat (jtL f N.toNat))) (n9 : n < 120) (hx : x = jtD f N.toNat) (hv : v = V x) (c : ((most < v ∨ (v = most ∧ x < digits)) ∧ most' = v ∧ digits' = x) ∨ (¬ (most < v ∨ (v = most ∧ x < digits)) ∧ most' = most ∧ digits' = digits)) (t : (N.toNat ≤ jtI f N.toNat 8 1 ∧ changed' = -1) ∨ (jtI f N.toNat 8 1 < N.toNat ∧ changed' = ((jtI f N.toNat 8 1 : Nat) : Int) ∧ ∀ k : Nat, f' k = jtT f N.toNat k)) : R0 = jfc V (most', digits') (if changed' < 0 then [] else jvs (120 - (n + 1)).toNat (jtL f' N.toNat)) := by
  rw [show (120 - n).toNat = (120 - (n + 1)).toNat + 1 by omega, jvs_on, ← hx] at h
  have e : (if ((most, digits) : Int × Int).1 < V x ∨ (V x = ((most, digits) : Int × Int).1 ∧ x < ((most, digits) : Int × Int).2) then (V x, x) else ((most, digits) : Int × Int)) = (most', digits') := by
    rw [← hv]
    rcases c with ⟨c, e1, e2⟩ | ⟨c, e1, e2⟩
    · rw [if_pos c, e1, e2]
    · rw [if_neg c, e1, e2]
  rw [h]
  show jfc V (if ((most, digits) : Int × Int).1 < V x ∨ (V x = ((most, digits) : Int × Int).1 ∧ x < ((most, digits) : Int × Int).2) then (V x, x) else ((most, digits) : Int × Int)) _ = _
  rw [e]
  rcases t with ⟨t1, t2⟩ | ⟨t1, t2, t3⟩
  · rw [if_pos t1, t2, if_pos (by decide)]
  · rw [if_neg (by omega), if_neg (by omega), show f' = jtT f N.toNat from funext t3]
theorem jvT.fin {V : Int → Int} {R0 : Int × Int} {most digits n changed : Int} {l : List Int} (h : R0 = jfc V (most, digits) (if changed < 0 then [] else jvs (120 - n).toNat l)) (e : changed < 0 ∨ 120 ≤ n) : R0 = (most, digits) := by
  rw [h]
  by_cases c : changed < 0
  · rw [if_pos c]; rfl
  · rw [if_neg c, show (120 - n).toNat = 0 by omega]; rfl
/-- digits of a number of N -/
def jtg (D N : Int) : Nat → Int := fun z => D / 10 ^ (N - 1 - (z : Int)).toNat % 10
theorem jtD_dig {f : Nat → Int} : ∀ n z : Nat, (∀ k : Nat, k < n → 0 ≤ f k ∧ f k ≤ 9) → z < n → jtD f n / 10 ^ (n - 1 - z) % 10 = f z
  | 0, _, _, h => absurd h (by omega)
  | n + 1, z, r, h => by
    show (10 * jtD f n + f n) / 10 ^ (n + 1 - 1 - z) % 10 = f z
    have rn := r n (by omega)
    by_cases c : z = n
    · subst c; rw [show z + 1 - 1 - z = 0 by omega, Int.pow_zero, Int.ediv_one]; omega
    · rw [show n + 1 - 1 - z = (n - 1 - z) + 1 by omega, show (10 : Int) ^ ((n - 1 - z) + 1) = 10 * 10 ^ (n - 1 - z) from by rw [Int.pow_succ, Int.mul_comm], ← Int.ediv_ediv_of_nonneg (by decide), show (10 * jtD f n + f n) / 10 = jtD f n by omega]
      exact jtD_dig n z (fun k hk => r k (by omega)) (by omega)
theorem jtg_D {f : Nat → Int} {N : Int} {z : Nat} (r : ∀ k : Nat, (k : Int) < N → 0 ≤ f k ∧ f k ≤ 9) (h : (z : Int) < N) : jtg (jtD f N.toNat) N z = f z := by
  unfold jtg
  rw [show (N - 1 - (z : Int)).toNat = N.toNat - 1 - z by omega]
  exact jtD_dig N.toNat z (fun k hk => r k (by omega)) (by omega)
/-- the best, if they come so -/
noncomputable def jcVd (σ : Nat → Nat → Int32) (D : Int) : Int := (jV (jcCh σ (σ 2 1).toInt) (jcRn σ (σ 2 1).toInt) (jtg D (σ 16 0).toInt) (σ 16 0).toInt (σ 16 2).toInt (σ 16 1).toInt.toNat (-1) (jqLo (σ 3) (σ 2 0).toInt (-1) 0) (fun _ => 0) 0 0).2
noncomputable def jrVd (σ : Nat → Nat → Int32) (D : Int) : Int := (jV (jrCh σ) (jrRn σ) (jtg D (σ 55 10).toInt) (σ 55 10).toInt (σ 55 13).toInt (σ 55 12).toInt.toNat (-1) (jqLo (σ 56) (σ 55 6).toInt (-1) 0) (fun _ => 0) 0 0).2
theorem jPk_0le {m : Nat → Bool} {v : Nat → Int} : ∀ n : Nat, (∀ b : Nat, b < n → 0 ≤ v b) → 0 ≤ (jPk m v n).2
  | 0, _ => by show (0 : Int) ≤ 0; decide
  | n + 1, h => by
    rw [jPk]
    split
    · exact h n (by omega)
    · exact jPk_0le n (fun b hb => h b (by omega))
theorem jMo_0 {R r c p q : Int} (R0 : 0 ≤ R ∧ R ≤ 1000) (r0 : 0 ≤ r) (c0 : 0 ≤ c ∧ c ≤ 1000) (p0 : 0 ≤ p) (q0 : 0 ≤ q) : 0 ≤ jMo R r c p q := by
  have a : 0 ≤ jMx c p q := by
    unfold jMx
    have := Int.mul_nonneg c0.1 p0
    have := Int.mul_nonneg (a := 1000 - c) (b := q) (by omega) q0
    omega
  unfold jMo
  have := Int.mul_nonneg (a := 1000 - R) (b := jMx c p q) (by omega) a
  omega
theorem jV_0le {ch : Nat → Int → Int → Int → Int → Int → Int} {rn : Nat → Int → Int → Int} {so : Nat → Int} {n R : Int} (R0 : 0 ≤ R ∧ R ≤ 1000) (hc : ∀ b s t l o w, 0 ≤ ch b s t l o w ∧ ch b s t l o w ≤ 1000) (hr : ∀ b s t, 0 ≤ rn b s t) : ∀ (k : Nat) (last : Int) (lf st : Nat → Int) (o w : Int), 0 ≤ (jV ch rn so n R k last lf st o w).2
  | 0, _, _, _, _, _ => by show (0 : Int) ≤ 0; decide
  | k + 1, last, lf, st, o, w => by
    rw [jV]
    split
    · show (0 : Int) ≤ 0; decide
    · exact jPk_0le 4 (fun b _ => jMo_0 R0 (hr _ _ _) (hc _ _ _ _ _ _) (jV_0le R0 hc hr k _ _ _ _ _) (jV_0le R0 hc hr k _ _ _ _ _))
theorem jClp_r (x : Int32) : 0 ≤ (jClp x).toInt ∧ (jClp x).toInt ≤ 1000 := by
  unfold jClp
  have k : (1000 : Int32).toInt = 1000 := by decide
  split
  · exact ⟨by decide, by decide⟩
  · split
    · omega
    · omega
theorem jRn_0 (c e1 e2 t : Int32) : 0 ≤ (jRn c e1 e2 t).toInt := by
  unfold jRn
  split
  · decide
  · omega
theorem jcVd_0 {σ : Nat → Nat → Int32} {D : Int} (R0 : 0 ≤ (σ 16 2).toInt ∧ (σ 16 2).toInt ≤ 999) : 0 ≤ jcVd σ D := jV_0le (by omega) (fun _ _ _ _ _ _ => jClp_r _) (fun _ _ _ => jRn_0 _ _ _ _) _ _ _ _ _ _
theorem jqSm.vd {σ : Nat → Nat → Int32} (h : jqSm σ) (hf : (σ 2 1).toInt = (σ 55 9).toInt) (f0 : 0 ≤ (σ 55 9).toInt ∧ (σ 55 9).toInt ≤ 3) {D : Int} (hd : ∀ z : Nat, (z : Int) < (σ 55 10).toInt → 0 ≤ jtg D (σ 55 10).toInt z ∧ jtg D (σ 55 10).toInt z ≤ 3) : jcVd σ D = jrVd σ D := by
  have lo := h.lo
  obtain ⟨⟨hB, h4, hN, N8, hT, T12, hR⟩, num, tc, bl, so, s3, ok⟩ := h
  unfold jcVd jrVd
  rw [lo.1, hN, hR, hT]
  refine congrArg Prod.snd (jV_cong (w0 := 0) (O := 100) (B := (σ 55 6).toInt) (fun z _ z1 => ⟨rfl, hd z z1⟩) (fun b s t l o w hb hB' hs ht hl ho hw => ?_) (fun b s t hb hB' hs ht => ?_) _ _ _ _ _ _ lo.2 (by decide) (by omega) (by decide) (by decide))
  · unfold jcCh jrCh jChv
    rw [hf, num _ (by omega) (Or.inl (by omega)), num _ (by omega) (Or.inr (by omega)), (tc _ (by omega)).1, bl]
  · unfold jcRn jrRn jRnv
    rw [hf, num _ (by omega) (Or.inr (by omega)), num _ (by omega) (Or.inr (by omega)), (tc _ (by omega)).2]
/-! sorted down -/
def jcs (f : Nat → Int32) (v : Int) : Nat → Nat
  | 0 => 0
  | n + 1 => jcs f v n + (if (f n).toInt = v then 1 else 0)
def jpo (b c d : Nat) (k : Nat) : Int := if k < d then 3 else if k < d + c then 2 else if k < d + c + b then 1 else 0
theorem jsd_L {a b c d : Nat} : jtL (jpo b c d) (a + b + c + d) = jsd a b c d := by
  unfold jtL jsd
  refine List.ext_getElem (by simp only [List.length_map, List.length_range, List.length_append, List.length_replicate]; omega) (fun k h1 h2 => ?_)
  have h3 := h1
  simp only [List.length_map, List.length_range] at h3
  simp only [List.getElem_map, List.getElem_range, List.getElem_append, List.getElem_replicate, List.length_replicate]
  unfold jpo
  (repeat' split) <;> omega
theorem jcs_le {f : Nat → Int32} {v : Int} : ∀ n m : Nat, n ≤ m → jcs f v n ≤ jcs f v m
  | n, 0, h => by rw [show n = 0 by omega]; exact Nat.le_refl _
  | n, m + 1, h => by
    by_cases e : n = m + 1
    · rw [e]; exact Nat.le_refl _
    · have := jcs_le (f := f) (v := v) n m (by omega)
      show jcs f v n ≤ jcs f v m + _
      omega
theorem jcs_lt {f : Nat → Int32} {v : Int} {i n : Nat} (h : i < n) (hv : (f i).toInt = v) : jcs f v i < jcs f v n := by
  have a := jcs_le (f := f) (v := v) (i + 1) n (by omega)
  have b : jcs f v (i + 1) = jcs f v i + 1 := by show jcs f v i + (if (f i).toInt = v then 1 else 0) = _; rw [if_pos hv]
  omega
theorem jcs_all {f : Nat → Int32} : ∀ n : Nat, (∀ k : Nat, k < n → 0 ≤ (f k).toInt ∧ (f k).toInt ≤ 3) → jcs f 0 n + jcs f 1 n + jcs f 2 n + jcs f 3 n = n
  | 0, _ => rfl
  | n + 1, h => by
    have a := jcs_all n (fun k hk => h k (by omega))
    have r := h n (by omega)
    show jcs f 0 n + (if (f n).toInt = 0 then 1 else 0) + (jcs f 1 n + (if (f n).toInt = 1 then 1 else 0)) + (jcs f 2 n + (if (f n).toInt = 2 then 1 else 0)) + (jcs f 3 n + (if (f n).toInt = 3 then 1 else 0)) = n + 1
    (repeat' split) <;> omega
def jbs (f : Nat → Int32) (N : Nat) (s : Int) : Nat := (if s < 3 then jcs f 3 N else 0) + ((if s < 2 then jcs f 2 N else 0) + ((if s < 1 then jcs f 1 N else 0) + (if s < 0 then jcs f 0 N else 0)))
/-- laid down from the greatest: n of them stand, of sort s those among the first i -/
def jSd (f g : Nat → Int32) (N : Nat) (n s : Int) (i : Nat) : Prop := n = ((jbs f N s + jcs f s i : Nat) : Int) ∧ ∀ k : Nat, (k : Int) < n → (g k).toInt = jpo (jcs f 1 N) (jcs f 2 N) (jcs f 3 N) k
theorem jSd.first {f g : Nat → Int32} {N : Nat} {n s : Int} (hn : n = 0) (hs : s = 3) : jSd f g N n s 0 := by
  subst hn hs
  exact ⟨rfl, fun k hk => absurd hk (by omega)⟩
theorem jSd.skip {f g : Nat → Int32} {N i : Nat} {n s : Int} (h : jSd f g N n s i) (hv : (f i).toInt ≠ s) : jSd f g N n s (i + 1) := by
  refine ⟨?_, h.2⟩
  have e : jcs f s (i + 1) = jcs f s i := by show jcs f s i + (if (f i).toInt = s then 1 else 0) = _; rw [if_neg hv]; rfl
  rw [e]; exact h.1
theorem jSd.lt {f g : Nat → Int32} {N i : Nat} {n s : Int} (h : jSd f g N n s i) (hi : i < N) (hv : (f i).toInt = s) (r : ∀ k : Nat, k < N → 0 ≤ (f k).toInt ∧ (f k).toInt ≤ 3) : n < (N : Int) := by
  have a := jcs_lt hi hv
  have t := jcs_all N r
  have ri := r i hi
  have e := h.1
  unfold jbs at e
  have h9 : s = 0 ∨ s = 1 ∨ s = 2 ∨ s = 3 := by omega
  rcases h9 with rfl | rfl | rfl | rfl <;> simp at e <;> omega
theorem jSd.put {f g g' : Nat → Int32} {N i : Nat} {n n' s : Int} {w : Int32} (h : jSd f g N n s i) (hi : i < N) (hv : (f i).toInt = s) (r : ∀ k : Nat, k < N → 0 ≤ (f k).toInt ∧ (f k).toInt ≤ 3) (e : g' = jupd g n.toNat w) (hw : w.toInt = s) (hn : n' = n + 1) : jSd f g' N n' s (i + 1) := by
  subst e hn
  have a := jcs_lt hi hv
  have t := jcs_all N r
  have ri := r i hi
  obtain ⟨e1, e2⟩ := h
  have e3 : jcs f s (i + 1) = jcs f s i + 1 := by show jcs f s i + (if (f i).toInt = s then 1 else 0) = _; rw [if_pos hv]
  refine ⟨by rw [e3]; omega, fun k hk => ?_⟩
  by_cases c : k = n.toNat
  · rw [c, jqup_eq, hw]
    unfold jbs at e1
    unfold jpo
    have h9 : s = 0 ∨ s = 1 ∨ s = 2 ∨ s = 3 := by omega
    rcases h9 with rfl | rfl | rfl | rfl <;> simp at e1 <;> (repeat' split) <;> omega
  · rw [jqup_ne c]; exact e2 k (by omega)
theorem jSd.down {f g : Nat → Int32} {N i : Nat} {n s s' : Int} (h : jSd f g N n s i) (hi : i = N) (s0 : 0 ≤ s ∧ s ≤ 3) (e : s' = s - 1) : jSd f g N n s' 0 := by
  subst hi e
  refine ⟨?_, h.2⟩
  have e := h.1
  show n = ((jbs f i (s - 1) + 0 : Nat) : Int)
  rw [e]
  unfold jbs
  have h9 : s = 0 ∨ s = 1 ∨ s = 2 ∨ s = 3 := by omega
  rcases h9 with rfl | rfl | rfl | rfl <;> simp <;> omega
theorem jSd.fin {f g : Nat → Int32} {N : Nat} {n s : Int} (h : jSd f g N n s 0) (hs : s < 0) (s1 : -1 ≤ s) (r : ∀ k : Nat, k < N → 0 ≤ (f k).toInt ∧ (f k).toInt ≤ 3) : jtL (fun k => (g k).toInt) N = jsd (jcs f 0 N) (jcs f 1 N) (jcs f 2 N) (jcs f 3 N) := by
  have t := jcs_all N r
  have e : s = -1 := by omega
  subst e
  have e1 := h.1
  unfold jbs at e1
  simp at e1
  rw [← jsd_L, t]
  show (List.range N).map _ = (List.range N).map _
  exact List.map_congr_left (fun k hk => h.2 k (by have := List.mem_range.mp hk; simp only [jcs] at e1; omega))
/-! turned on -/
theorem jtI.step {f : Nat → Int} {n R : Nat} {i i' a b : Int} (q : R = jtI f n (9 - i).toNat i.toNat) (i1 : 1 ≤ i) (i8 : i ≤ 8) (c1 : i.toNat < n) (ha : a = f (i - 1).toNat) (hb : b = f i.toNat) (c2 : a ≤ b) (e : i' = i + 1) : R = jtI f n (9 - i').toNat i'.toNat := by
  subst e ha hb
  rw [q, show (9 - i).toNat = (9 - (i + 1)).toNat + 1 by omega]
  show (if i.toNat < n ∧ f (i.toNat - 1) ≤ f i.toNat then jtI f n (9 - (i + 1)).toNat (i.toNat + 1) else i.toNat) = _
  rw [if_pos ⟨c1, by rw [show i.toNat - 1 = (i - 1).toNat by omega]; exact c2⟩, show (i + 1).toNat = i.toNat + 1 by omega]
theorem jtI.fin {f : Nat → Int} {n R : Nat} {i a b : Int} (q : R = jtI f n (9 - i).toNat i.toNat) (i1 : 1 ≤ i) (i8 : i ≤ 8) (c : n ≤ i.toNat ∨ (a = f (i - 1).toNat ∧ b = f i.toNat ∧ b < a)) : R = i.toNat := by
  rw [q, show (9 - i).toNat = (8 - i).toNat + 1 by omega]
  show (if i.toNat < n ∧ f (i.toNat - 1) ≤ f i.toNat then jtI f n (8 - i).toNat (i.toNat + 1) else i.toNat) = _
  rw [if_neg (fun z => by
    rcases c with c | ⟨c1, c2, c3⟩
    · omega
    · have z2 := z.2
      rw [show i.toNat - 1 = (i - 1).toNat by omega, ← c1, ← c2] at z2; omega)]
theorem jtJ.step {f : Nat → Int} {i R : Nat} {j j' a b : Int} (q : R = jtJ f i (8 - j).toNat j.toNat) (j0 : 0 ≤ j) (j8 : j < 8) (c1 : j.toNat < i) (ha : a = f j.toNat) (hb : b = f i) (c2 : a ≤ b) (e : j' = j + 1) : R = jtJ f i (8 - j').toNat j'.toNat := by
  subst e ha hb
  rw [q, show (8 - j).toNat = (8 - (j + 1)).toNat + 1 by omega]
  show (if j.toNat < i ∧ f j.toNat ≤ f i then jtJ f i (8 - (j + 1)).toNat (j.toNat + 1) else j.toNat) = _
  rw [if_pos ⟨c1, c2⟩, show (j + 1).toNat = j.toNat + 1 by omega]
theorem jtJ.fin {f : Nat → Int} {i R : Nat} {j a b : Int} (q : R = jtJ f i (8 - j).toNat j.toNat) (j0 : 0 ≤ j) (j8 : j < 8) (c : i ≤ j.toNat ∨ (a = f j.toNat ∧ b = f i ∧ b < a)) : R = j.toNat := by
  rw [q, show (8 - j).toNat = (7 - j).toNat + 1 by omega]
  show (if j.toNat < i ∧ f j.toNat ≤ f i then jtJ f i (7 - j).toNat (j.toNat + 1) else j.toNat) = _
  rw [if_neg (fun z => by
    rcases c with c | ⟨c1, c2, c3⟩
    · omega
    · have z2 := z.2; omega)]
theorem jtS_of {g g' : Nat → Int32} {i j : Nat} (e : g' = jupd (jupd g i (g j)) j (g i)) (k : Nat) : (g' k).toInt = jtS (fun k => (g k).toInt) i j k := by
  subst e
  unfold jtS
  by_cases c : k = j
  · rw [if_pos c, c, jqup_eq]
  · rw [if_neg c, jqup_ne c]
    by_cases d : k = i
    · rw [if_pos d, d, jqup_eq]
    · rw [if_neg d, jqup_ne d]
/-- turned round, as far as a and z -/
def jRv (h : Nat → Int) (g : Nat → Int32) (i a z : Int) : Prop := a + z = i - 1 ∧ (0 ≤ a ∧ a ≤ z + 1) ∧ ∀ k : Nat, (g k).toInt = if (k : Int) < a ∨ (z < (k : Int) ∧ (k : Int) < i) then h (i - 1 - (k : Int)).toNat else h k
theorem jRv.first {h : Nat → Int} {g : Nat → Int32} {i a z : Int} (e : ∀ k : Nat, (g k).toInt = h k) (ha : a = 0) (hz : z = i - 1) (i0 : 0 ≤ i) : jRv h g i a z := by
  subst ha hz
  exact ⟨by omega, by omega, fun k => by rw [if_neg (by omega)]; exact e k⟩
theorem jRv.step {h : Nat → Int} {g g' : Nat → Int32} {i a z a' z' : Int} (q : jRv h g i a z) (az : a < z) (e : g' = jupd (jupd g a.toNat (g z.toNat)) z.toNat (g a.toNat)) (ea : a' = a + 1) (ez : z' = z - 1) : jRv h g' i a' z' := by
  subst ea ez
  obtain ⟨q1, q2, q3⟩ := q
  refine ⟨by omega, by omega, fun k => ?_⟩
  have ga := q3 a.toNat
  have gz := q3 z.toNat
  rw [if_neg (by omega)] at ga gz
  rw [jtS_of e k]
  unfold jtS
  by_cases c : k = z.toNat
  · rw [if_pos c, if_pos (by omega)]
    show (g a.toNat).toInt = _
    rw [ga]; congr 1; omega
  · rw [if_neg c]
    by_cases d : k = a.toNat
    · rw [if_pos d, if_pos (by omega)]
      show (g z.toNat).toInt = _
      rw [gz]; congr 1; omega
    · rw [if_neg d]
      show (g k).toInt = _
      rw [q3 k]
      by_cases f : (k : Int) < a ∨ (z < (k : Int) ∧ (k : Int) < i)
      · rw [if_pos f, if_pos (by omega)]
      · rw [if_neg f, if_neg (by omega)]
theorem jRv.fin {h : Nat → Int} {g : Nat → Int32} {i a z : Int} {n : Nat} (q : jRv h g i a z) (az : z ≤ a) (hn : (n : Int) = i) (k : Nat) : (g k).toInt = jtR h n k := by
  obtain ⟨q1, q2, q3⟩ := q
  rw [q3 k]
  unfold jtR
  by_cases c : k < n
  · rw [if_pos c]
    by_cases d : (k : Int) < a ∨ (z < (k : Int) ∧ (k : Int) < i)
    · rw [if_pos d]; congr 1; omega
    · rw [if_neg d]; congr 1; omega
  · rw [if_neg c, if_neg (by omega)]
theorem jtT_of {f : Nat → Int} {n i j : Nat} {g : Nat → Int32} (hi : jtI f n 8 1 = i) (hj : jtJ f i 8 0 = j) (c : i < n) (h : ∀ k : Nat, (g k).toInt = jtR (jtS f i j) i k) (k : Nat) : (g k).toInt = jtT f n k := by
  unfold jtT
  rw [hi, hj, if_neg (by omega)]; exact h k
theorem jtT_keep {f : Nat → Int} {n k : Nat} (c : jtI f n 8 1 < n) (h : jtI f n 8 1 < k) : jtT f n k = f k := by
  unfold jtT
  rw [if_neg (by omega)]
  have hj : jtJ f (jtI f n 8 1) 8 0 ≤ jtI f n 8 1 := jtJ_le 8 0 (by omega)
  generalize jtI f n 8 1 = i at c h hj
  generalize jtJ f i 8 0 = j at hj
  unfold jtR jtS
  rw [if_neg (by omega), if_neg (by omega), if_neg (by omega)]
theorem jtI_ge {f : Nat → Int} {n : Nat} : ∀ m i : Nat, i ≤ jtI f n m i
  | 0, i => Nat.le_refl i
  | m + 1, i => by
    show i ≤ (if i < n ∧ f (i - 1) ≤ f i then jtI f n m (i + 1) else i)
    split
    · have := jtI_ge (f := f) (n := n) m (i + 1); omega
    · exact Nat.le_refl i
/-! what was sought for the order before -/
theorem jqRt.so {ch : Nat → Int → Int → Int → Int → Int → Int} {rn : Nat → Int → Int → Int} {so so' : Nat → Int} {N R lv start fr lo lo' : Int} {K V W : Nat → Int32} {j : Nat} (h : jqRt ch rn so N R lv start fr K V W j lo) (e : ∀ z : Nat, lo' ≤ (z : Int) → (z : Int) < N → so z = so' z ∧ 0 ≤ so z ∧ so z ≤ 3) (l : lo ≤ lo') (l0 : 0 ≤ lo') (s0 : 0 ≤ start) : jqRt ch rn so' N R lv start fr K V W j lo' := by
  intro T d no w h1 h2 h3
  rw [h T d no w (by omega) h2 h3]
  exact jV_cong (w0 := lo') (O := start + d + ((lv - d).toNat : Int)) (B := 4) e (fun _ _ _ _ _ _ _ _ _ _ _ _ _ => rfl) (fun _ _ _ _ _ _ _ => rfl) _ _ _ _ _ _ (fun c hc => ⟨jlf_r T c hc, jst_r T c hc, fun z => absurd z (by omega)⟩) (by have := no.2.2; omega) (by omega) (by omega) (by omega)
/-- a graph stands for a, and what was judged for the order now is right from lo on -/
def jqTb (u : Nat → Nat → Int32) (a : Int32) (T lo : Int) : Prop := (u 31 9 = a ∧ (u 31 10).toInt = 0 ∧ (u 31 11).toInt = T ∧ ((u 31 12).toInt ≠ 0 ↔ (u 22 1).toBitVec.getLsbD 5 = true) ∧ 0 ≤ (u 31 12).toInt ∧ (u 31 12).toInt ≤ 1) ∧ ∀ j : Nat, (j : Int) < (u 31 8).toInt → jqRt (jChc u) (jRnc u) (fun y => (u 1 y).toInt) (u 16 0).toInt (u 16 2).toInt (u 31 11).toInt (u 31 10).toInt 0 (u 32) (u 34) (u 35) j lo
/-- grown for what stands already: nothing is changed -/
def jqGk (s v : Nat → Nat → Int32) (a : Int32) (far : Int) : Prop := s 31 9 = a → (s 31 11).toInt = far → ((s 31 12).toInt ≠ 0 ↔ (s 22 1).toBitVec.getLsbD 5 = true) → 0 ≤ (s 31 12).toInt ∧ (s 31 12).toInt ≤ 1 → v 31 8 = s 31 8 ∧ v 32 = s 32
theorem jqTb.sp {s v : Nat → Nat → Int32} {a : Int32} {T last : Int} (h : last = (s 16 0).toInt - 1 ∨ jqTb s a T (last + 1)) (gk : jqGk s v a T) (fm : jFm a) (l : last < (s 16 0).toInt) (r9 : ∀ k : Nat, k < 64 → 0 ≤ (s 28 k).toInt ∧ (s 28 k).toInt ≤ 41) (v10 : (v 31 10).toInt = 0) (v11 : (v 31 11).toInt = T) : jqSp s v 1 a 0 last := by
  refine ⟨fm, l, r9, fun j hj => ?_⟩
  rcases h with h | ⟨⟨h1, h2, h3, h4, h5⟩, h6⟩
  · intro T d no w w1 w2 w3; exact absurd w1 (by omega)
  · obtain ⟨g1, g2⟩ := gk h1 h3 h4 h5
    have q := h6 j (by rw [← g1]; exact hj)
    rw [h2, h3] at q; rw [v10, v11, g2]; exact q
/-- sought: the root's value, and what stands for the next order -/
theorem jqTb.on {s v u σ : Nat → Nat → Int32} {a : Int32} {F T lo : Int} (sr : jqSr s v 1 0 0) (kg : jKg v) (fm : jFm a) (e9 : v 31 9 = a) (dep : jDep (jGb s) (s 22 1)) (hx : (v 31 12).toInt ≠ 0 ↔ (s 22 1).toBitVec.getLsbD 5 = true) (v12 : 0 ≤ (v 31 12).toInt ∧ (v 31 12).toInt ≤ 1) (v10 : (v 31 10).toInt = 0) (v11 : (v 31 11).toInt = T) (T1 : 1 ≤ T) (hT : (σ 16 1).toInt = T) (ld : jLd (s 27) (s 28) (σ 3) (σ 4) (σ 5) F 64) (hF : (σ 2 1).toInt = F) (g : jGb s = jGb σ) (n1 : s 16 0 = σ 16 0) (n2 : s 16 2 = σ 16 2) (N1 : 1 ≤ (σ 16 0).toInt) (s3 : ∀ z : Nat, (z : Int) < (σ 16 0).toInt → 0 ≤ (s 1 z).toInt ∧ (s 1 z).toInt ≤ 3) (la : jla a = -1) (hl : ∀ c : Nat, c < 4 → jlf a c = jqLo (σ 3) (σ 2 0).toInt (-1) 0 c ∧ jst a c = 0) :
    (1 ≤ (v 31 8).toInt ∧ (v 34 0).toInt = jcVd σ (jtD (fun k => (s 1 k).toInt) (σ 16 0).toInt.toNat)) ∧ (u 27 = s 27 → u 28 = s 28 → u 23 = s 23 → u 22 0 = s 22 0 → u 22 1 = s 22 1 → u 16 0 = s 16 0 → u 16 2 = s 16 2 → u 31 8 = v 31 8 → u 31 9 = v 31 9 → u 31 10 = v 31 10 → u 31 11 = v 31 11 → u 31 12 = v 31 12 → u 32 = v 32 → u 34 = v 34 → u 35 = v 35 → 0 ≤ lo → (∀ z : Nat, lo ≤ (z : Int) → (z : Int) < (σ 16 0).toInt → (u 1 z).toInt = (s 1 z).toInt) → jqTb u a T lo) := by
  have t := sr.top kg fm e9 dep hx (by omega) (by decide)
  refine ⟨⟨t.1, ?_⟩, fun e27 e28 e23 e22 e221 e160 e162 f8 f9 f10 f11 f12 f32 f34 f35 l0 es => ?_⟩
  · have z := congrArg Prod.snd (t.2 0 (by decide) (by decide) (by rw [n1]; omega))
    have z : (v 34 0).toInt = _ := z
    rw [z, v10, v11, la, n1, n2]
    unfold jcVd
    rw [hT, hF]
    rw [jV_cong (w0 := 0) (O := (T.toNat : Int)) (B := 4) (fun z _ z1 => ⟨(jtg_D (f := fun k => (s 1 k).toInt) (N := (σ 16 0).toInt) (fun k hk => by have := s3 k hk; omega) z1).symm, s3 z z1⟩) (fun b s t l o w hb _ hs ht _ _ _ => ld.ch g b s t l o w hb hs ht) (fun b s t hb _ hs ht => ld.rn b s t hb hs ht) _ _ _ _ _ _ (fun c hc => ⟨jlf_r a c hc, jst_r a c hc, fun z => absurd z (by omega)⟩) (by decide) (by omega) (by decide) (by decide)]
    refine congrArg Prod.snd (jV_qv (ex := true) (fun q => absurd q (by decide)) _ _ _ _ _ _ _ _ (fun c hc => ?_))
    have x := hl c hc
    have y := jlf_r a c hc
    exact ⟨y.1, by omega, fun _ _ => x.2, fun _ _ => x.2, by rw [x.1], fun _ _ => x.1⟩
  · refine ⟨⟨by rw [f9]; exact e9, by rw [f10]; exact v10, by rw [f11]; exact v11, by rw [f12, e221]; exact hx, by rw [f12]; exact v12⟩, fun j hj => ?_⟩
    have q := (sr.1 j (by omega) (by rw [← f8]; exact hj)).1
    rw [jChc_eq e27 e23 e22, jRnc_eq e28, e160, e162, f11, f10, f32, f34, f35]
    refine jqRt.so q (fun z z0 z1 => ?_) l0 l0 (by omega)
    rw [n1] at z1
    exact ⟨(es z z0 z1).symm, s3 z z1⟩
/-! their order: the class, step by step -/
theorem jtD_r {f : Nat → Int} : ∀ n : Nat, (∀ k : Nat, k < n → 0 ≤ f k ∧ f k ≤ 3) → 0 ≤ jtD f n ∧ jtD f n + 1 ≤ ((10 ^ n : Nat) : Int)
  | 0, _ => by show (0 : Int) ≤ 0 ∧ (0 : Int) + 1 ≤ ((10 ^ 0 : Nat) : Int); decide
  | n + 1, h => by
    have a := jtD_r n (fun k hk => h k (by omega))
    have b := h n (by omega)
    show 0 ≤ 10 * jtD f n + f n ∧ 10 * jtD f n + f n + 1 ≤ ((10 ^ (n + 1) : Nat) : Int)
    rw [Nat.pow_succ]
    generalize 10 ^ n = m at a ⊢
    omega
theorem jtD_b {f : Nat → Int} {n : Nat} (h5 : n ≤ 5) (h : ∀ k : Nat, k < n → 0 ≤ f k ∧ f k ≤ 3) : 0 ≤ jtD f n ∧ jtD f n ≤ 300000 := by
  have a := jtD_r n h
  have h9 : n = 0 ∨ n = 1 ∨ n = 2 ∨ n = 3 ∨ n = 4 ∨ n = 5 := by omega
  rcases h9 with rfl | rfl | rfl | rfl | rfl | rfl <;> omega
theorem jtD.step {g : Nat → Int32} {v m x a : Int32} {i i' : Int} (q : v.toInt = jtD (fun k => (g k).toInt) i.toNat) (em : m = v * 10) (ex : x = m + a) (ha : a.toInt = (g i.toNat).toInt) (i0 : 0 ≤ i) (i4 : i ≤ 4) (r : ∀ k : Nat, k < 8 → 0 ≤ (g k).toInt ∧ (g k).toInt ≤ 3) (hi : i' = i + 1) : x.toInt = jtD (fun k => (g k).toInt) i'.toNat := by
  subst hi
  have b := jtD_b (f := fun k => (g k).toInt) (n := i.toNat) (by omega) (fun k hk => r k (by omega))
  have ra := r i.toNat (by omega)
  have e1 : m.toInt = v.toInt * 10 := jmul em rfl (show (10 : Int32).toInt = 10 by decide) (by omega) (by omega)
  have e2 : x.toInt = m.toInt + a.toInt := jadd ex rfl rfl (by omega) (by omega)
  rw [show (i + 1).toNat = i.toNat + 1 by omega]
  show x.toInt = 10 * jtD (fun k => (g k).toInt) i.toNat + (g i.toNat).toInt
  omega
theorem jtT_r {f : Nat → Int} {n k : Nat} (h : ∀ k : Nat, k < n → 0 ≤ f k ∧ f k ≤ 3) (hk : k < n) : 0 ≤ jtT f n k ∧ jtT f n k ≤ 3 := by
  unfold jtT
  by_cases c : n ≤ jtI f n 8 1
  · rw [if_pos c]; exact h k hk
  · rw [if_neg c]
    have hj : jtJ f (jtI f n 8 1) 8 0 ≤ jtI f n 8 1 := jtJ_le 8 0 (by omega)
    generalize jtI f n 8 1 = i at c hj
    generalize jtJ f i 8 0 = j at hj
    have s : ∀ k : Nat, k < n → 0 ≤ jtS f i j k ∧ jtS f i j k ≤ 3 := fun k hk => by
      unfold jtS
      (repeat' split)
      · exact h i (by omega)
      · exact h j (by omega)
      · exact h k hk
    unfold jtR
    split
    · exact s _ (by omega)
    · exact s _ hk
/-- what is answered -/
def jqTh (r w : Int) (big : Prop) (T : Int × Int) : Prop := (¬ (0 ≤ w ∧ w ≤ 1) ∧ r = -1) ∨ ((0 ≤ w ∧ w ≤ 1) ∧ ((big ∧ r = -4) ∨ (¬ big ∧ ((w = 0 ∧ r = T.2) ∨ (w ≠ 0 ∧ r = T.1)))))
theorem jqTh.same {r r' w : Int} {b b' : Prop} {T T' : Int × Int} (h : jqTh r w b T) (h' : jqTh r' w b' T') (hb : b ↔ b') (e : ¬ b → T = T') : r = r' := by
  rcases h with ⟨a, h⟩ | ⟨a, ⟨c, h⟩ | ⟨c, h⟩⟩ <;> rcases h' with ⟨a', h'⟩ | ⟨a', ⟨c', h'⟩ | ⟨c', h'⟩⟩
  all_goals first
    | (rw [h, h']; done)
    | exact absurd a a'
    | exact absurd a' a
    | exact absurd (hb.mp c) c'
    | exact absurd (hb.mpr c') c
    | (have t := e c; rw [t] at h; rcases h with ⟨x, h⟩ | ⟨x, h⟩ <;> rcases h' with ⟨x', h'⟩ | ⟨x', h'⟩ <;> first | (rw [h, h']; done) | exact absurd x x' | exact absurd x' x)
/-! their order: the reference -/
theorem jof5 {i : Int32} (h0 : 0 ≤ i.toInt) (h4 : i.toInt ≤ 4) : i = Int32.ofNat i.toInt.toNat := by
  have h : i.toInt = 0 ∨ i.toInt = 1 ∨ i.toInt = 2 ∨ i.toInt = 3 ∨ i.toInt = 4 := by omega
  rcases h with h | h | h | h | h <;> rw [h] <;> exact Int32.toInt_inj.mp (by rw [h]; decide)
theorem jtbit {a y z i : Int32} (ey : y = a >>> (i &&& 31)) (ez : z = y &&& 1) (i0 : 0 ≤ i.toInt) (i4 : i.toInt ≤ 4) : z.toInt = 1 ↔ a.toBitVec.getLsbD i.toInt.toNat = true := by
  have hz : z.toInt = y.toInt % 2 := jandm (x := y) (y := z) (m := 1) (k := 1) (M := 2) ez rfl rfl (by decide)
  have hi := jof5 i0 i4
  generalize hn : i.toInt.toNat = n at hi
  have n4 : n ≤ 4 := by omega
  have e : (a >>> ((Int32.ofNat n) &&& 31)).toBitVec = a.toBitVec.sshiftRight n := by
    have h9 : n = 0 ∨ n = 1 ∨ n = 2 ∨ n = 3 ∨ n = 4 := by omega
    rcases h9 with rfl | rfl | rfl | rfl | rfl <;> rfl
  have hb : z.toBitVec.getLsbD 0 = a.toBitVec.getLsbD n := by
    rw [ez, ey, hi]
    show ((a >>> ((Int32.ofNat n) &&& 31)).toBitVec &&& 1#32).getLsbD 0 = _
    rw [BitVec.getLsbD_and, e, BitVec.getLsbD_sshiftRight]
    simp
    omega
  rw [← hb]
  have h2 : z.toInt = 0 ∨ z.toInt = 1 := by omega
  rcases h2 with h2 | h2
  · have z0 : z = 0 := Int32.toInt_inj.mp (by rw [h2]; decide)
    subst z0; decide
  · have z1 : z = 1 := Int32.toInt_inj.mp (by rw [h2]; decide)
    subst z1; decide
theorem jtor {a x b i : Int32} (ex : x = 1 <<< (i &&& 31)) (eb : b = a ||| x) (i0 : 0 ≤ i.toInt) (i4 : i.toInt ≤ 4) (z : Nat) (hz : z < 5) : b.toBitVec.getLsbD z = (a.toBitVec.getLsbD z || decide (z = i.toInt.toNat)) := by
  have hi := jof5 i0 i4
  generalize hn : i.toInt.toNat = n at hi
  have n4 : n ≤ 4 := by omega
  rw [eb, ex, hi]
  show (a.toBitVec ||| ((1 : Int32) <<< ((Int32.ofNat n) &&& 31)).toBitVec).getLsbD z = _
  rw [BitVec.getLsbD_or]
  congr 1
  have h9 : n = 0 ∨ n = 1 ∨ n = 2 ∨ n = 3 ∨ n = 4 := by omega
  have h8 : z = 0 ∨ z = 1 ∨ z = 2 ∨ z = 3 ∨ z = 4 := by omega
  rcases h9 with rfl | rfl | rfl | rfl | rfl <;> rcases h8 with rfl | rfl | rfl | rfl | rfl <;> decide
/-- how many of a sort are left -/
def jun (a : Int32) (f : Nat → Int32) (s : Int) : Nat → Nat
  | 0 => 0
  | n + 1 => jun a f s n + (if a.toBitVec.getLsbD n = false ∧ (f n).toInt = s then 1 else 0)
def jNl (a : Int32) (f : Nat → Int32) (s i : Int) : Prop := ∀ z : Nat, (z : Int) < i → ¬ (a.toBitVec.getLsbD z = false ∧ (f z).toInt = s)
theorem jNl.first {a : Int32} {f : Nat → Int32} {s i : Int} (h : i ≤ 0) : jNl a f s i := fun z hz => absurd hz (by omega)
theorem jNl.step {a : Int32} {f : Nat → Int32} {s i i' : Int} (h : jNl a f s i) (i0 : 0 ≤ i) (n : ¬ (a.toBitVec.getLsbD i.toNat = false ∧ (f i.toNat).toInt = s)) (e : i' = i + 1) : jNl a f s i' := fun z hz => by
  by_cases c : z = i.toNat
  · rw [c]; exact n
  · exact h z (by omega)
theorem jNl.none {a : Int32} {f : Nat → Int32} {s i : Int} : ∀ n : Nat, jNl a f s i → (n : Int) ≤ i → jun a f s n = 0
  | 0, _, _ => rfl
  | n + 1, h, hn => by
    show jun a f s n + (if a.toBitVec.getLsbD n = false ∧ (f n).toInt = s then 1 else 0) = 0
    rw [jNl.none n h (by omega), if_neg (h n (by omega))]
theorem jun_take {a b : Int32} {f : Nat → Int32} {i : Nat} (hb : ∀ z : Nat, z < 5 → b.toBitVec.getLsbD z = (a.toBitVec.getLsbD z || decide (z = i))) (ha : a.toBitVec.getLsbD i = false) (t : Int) : ∀ n : Nat, n ≤ 5 → jun b f t n + (if i < n ∧ (f i).toInt = t then 1 else 0) = jun a f t n
  | 0, _ => by show 0 + _ = 0; rw [if_neg (fun z => by omega)]
  | n + 1, h5 => by
    have q := jun_take (f := f) hb ha t n (by omega)
    have e := hb n (by omega)
    show jun b f t n + (if b.toBitVec.getLsbD n = false ∧ (f n).toInt = t then 1 else 0) + (if i < n + 1 ∧ (f i).toInt = t then 1 else 0) = jun a f t n + (if a.toBitVec.getLsbD n = false ∧ (f n).toInt = t then 1 else 0)
    by_cases c : n = i
    · subst c
      rw [if_neg (fun z => by omega)] at q
      have bn : b.toBitVec.getLsbD n = true := by rw [e]; simp
      rw [bn, ha, if_neg (fun z => absurd z.1 (by decide))]
      by_cases d : (f n).toInt = t
      · rw [if_pos ⟨by omega, d⟩, if_pos ⟨rfl, d⟩]; omega
      · rw [if_neg (fun z => d z.2), if_neg (fun z => d z.2)]; omega
    · have bn : b.toBitVec.getLsbD n = a.toBitVec.getLsbD n := by rw [e]; simp [c]
      rw [bn]
      by_cases d : i < n ∧ (f i).toInt = t
      · rw [if_pos d] at q
        rw [if_pos (show i < n + 1 ∧ (f i).toInt = t from ⟨by omega, d.2⟩)]; omega
      · rw [if_neg d] at q
        rw [if_neg (show ¬ (i < n + 1 ∧ (f i).toInt = t) from fun z => d ⟨by omega, z.2⟩)]; omega
theorem jun_0 {f g : Nat → Int32} {s : Int} : ∀ n : Nat, n ≤ 5 → (∀ z : Nat, z < n → f z = g z) → jun 0 f s n = jcs g s n
  | 0, _, _ => rfl
  | n + 1, h5, h => by
    show jun 0 f s n + (if (0 : Int32).toBitVec.getLsbD n = false ∧ (f n).toInt = s then 1 else 0) = jcs g s n + (if (g n).toInt = s then 1 else 0)
    rw [jun_0 n (by omega) (fun z hz => h z (by omega)), h n (by omega)]
    have b : (0 : Int32).toBitVec.getLsbD n = false := by show (0#32).getLsbD n = false; simp
    rw [b]
    by_cases c : (g n).toInt = s
    · rw [if_pos ⟨rfl, c⟩, if_pos c]
    · rw [if_neg (fun z => c z.2), if_neg c]
/-- all orders by counts; those whose first is below s -/
def jolF (k : Nat) (p : Int) (c : Nat → Nat) : List Int := jol k p (c 0) (c 1) (c 2) (c 3)
def jolS (k : Nat) (p : Int) (c : Nat → Nat) : Nat → List Int
  | 0 => []
  | s + 1 => jolS k p c s ++ (if 0 < c s then jolF k (10 * p + (s : Int)) (fun t => c t - (if t = s then 1 else 0)) else [])
theorem jolS_4 {k : Nat} {p : Int} {c : Nat → Nat} : jolS k p c 4 = jolF (k + 1) p c := by
  simp [jolS, jolF, jol, List.append_assoc]
theorem jfr_app {V : Int → Int} : ∀ (l l' : List Int) (s : Int × Int), jfr V s (l ++ l') = jfr V (jfr V s l) l'
  | [], _, _ => rfl
  | x :: r, l', s => by
    show jfr V (if s.1 < V x then (V x, x) else s) (r ++ l') = jfr V (jfr V (if s.1 < V x then (V x, x) else s) r) l'
    exact jfr_app r l' _
theorem jOr.first {V : Int → Int} {m0 d0 m d : Int} {k : Nat} {p s : Int} {c : Nat → Nat} (hm : m = m0) (hd : d = d0) (hs : s = 0) : (m, d) = jfr V (m0, d0) (jolS k p c s.toNat) := by subst hm hd hs; rfl
theorem jOr.step {V V' : Int → Int} {A : Int × Int} {m d m' d' : Int} {k k2 : Nat} {p p' s s' : Int} {c c' : Nat → Nat} (q : (m, d) = jfr V A (jolS k p c s.toNat)) (h : (m', d') = jfr V' (m, d) (jolF k2 p' c')) (eV : V' = V) (ek : k2 = k) (ep : p' = 10 * p + s) (hc : 0 < c s.toNat) (ec : ∀ t : Nat, t < 4 → c' t + (if t = s.toNat then 1 else 0) = c t) (s0 : 0 ≤ s) (hs : s' = s + 1) : (m', d') = jfr V A (jolS k p c s'.toNat) := by
  subst eV ek ep hs
  rw [show (s + 1).toNat = s.toNat + 1 by omega]
  show _ = jfr V' A (jolS k2 p c s.toNat ++ (if 0 < c s.toNat then jolF k2 (10 * p + ((s.toNat : Nat) : Int)) (fun t => c t - (if t = s.toNat then 1 else 0)) else []))
  rw [if_pos hc, jfr_app, ← q, h, show ((s.toNat : Nat) : Int) = s by omega]
  unfold jolF
  have e : ∀ t : Nat, t < 4 → c' t = c t - (if t = s.toNat then 1 else 0) := fun t ht => by have := ec t ht; omega
  simp only [e 0 (by decide), e 1 (by decide), e 2 (by decide), e 3 (by decide)]
theorem jOr.skip {V : Int → Int} {A : Int × Int} {m d : Int} {k : Nat} {p s s' : Int} {c : Nat → Nat} (q : (m, d) = jfr V A (jolS k p c s.toNat)) (hc : c s.toNat = 0) (s0 : 0 ≤ s) (hs : s' = s + 1) : (m, d) = jfr V A (jolS k p c s'.toNat) := by
  subst hs
  rw [show (s + 1).toNat = s.toNat + 1 by omega]
  show _ = jfr V A (jolS k p c s.toNat ++ (if 0 < c s.toNat then _ else []))
  rw [if_neg (by omega), List.append_nil]; exact q
theorem jOr.fin {V : Int → Int} {A : Int × Int} {m d : Int} {k k2 : Nat} {p s : Int} {c : Nat → Nat} (q : (m, d) = jfr V A (jolS k p c s.toNat)) (hs : s = 4) (ek : k2 = k + 1) : (m, d) = jfr V A (jolF k2 p c) := by
  subst hs ek
  rw [← jolS_4]; exact q
theorem jOr.leaf {V : Int → Int} {m d m' d' v p : Int} {k : Nat} {c : Nat → Nat} (hk : k = 0) (hv : v = V p) (h : (m < v ∧ m' = v ∧ d' = p) ∨ (v ≤ m ∧ m' = m ∧ d' = d)) : (m', d') = jfr V (m, d) (jolF k p c) := by
  subst hk hv
  show _ = if m < V p then (V p, p) else (m, d)
  rcases h with ⟨a, b, e⟩ | ⟨a, b, e⟩
  · rw [if_pos a, b, e]
  · rw [if_neg (by omega), b, e]
theorem jrVd_eq {σ u : Nat → Nat → Int32} (a1 : u 56 = σ 56) (a2 : u 60 = σ 60) (a3 : u 61 = σ 61) (a5 : u 64 = σ 64) (a6 : u 65 = σ 65) (b1 : u 55 6 = σ 55 6) (b2 : u 55 9 = σ 55 9) (b3 : u 55 10 = σ 55 10) (b4 : u 55 12 = σ 55 12) (b5 : u 55 13 = σ 55 13) : jrVd u = jrVd σ := by
  funext D
  unfold jrVd jrCh jrRn
  rw [a1, a2, a3, a5, a6, b1, b2, b3, b4, b5]
theorem jrVd_of {σ : Nat → Nat → Int32} (h4 : (σ 55 6).toInt ≤ 4) (N8 : (σ 55 10).toInt ≤ 8) (s3 : ∀ z : Nat, z < 8 → 0 ≤ (σ 62 z).toInt ∧ (σ 62 z).toInt ≤ 3) (ok : jOk (σ 56)) {n : Nat} (hn : (n : Int) = (σ 55 10).toInt) : jrW2 σ (σ 55 9).toInt (-1) 0 = jrVd σ (jtD (fun k => (σ 62 k).toInt) n) := by
  have lo : ∀ c : Nat, c < 4 → (0 ≤ jqLo (σ 56) (σ 55 6).toInt (-1) 0 c ∧ jqLo (σ 56) (σ 55 6).toInt (-1) 0 c ≤ 15) ∧ (0 ≤ (0 : Int) ∧ (0 : Int) ≤ 3) ∧ ((σ 55 6).toInt ≤ (c : Int) → jqLo (σ 56) (σ 55 6).toInt (-1) 0 c = 0) := fun c hc => by
    have a := ok c hc
    refine ⟨?_, ⟨by decide, by decide⟩, fun z => ?_⟩
    · unfold jqLo jmx
      (repeat' split) <;> omega
    · unfold jqLo
      rw [if_neg (by omega), if_neg (by omega)]
  unfold jrW2 jrFf jrVd jrCh jrRn
  refine congrArg Prod.snd ?_
  rw [Int.sub_zero]
  refine jV_cong (w0 := 0) (O := (((σ 55 12).toInt.toNat : Nat) : Int)) (B := (σ 55 6).toInt) (fun z _ z1 => ⟨?_, s3 z (by omega)⟩) (fun _ _ _ _ _ _ _ _ _ _ _ _ _ => rfl) (fun _ _ _ _ _ _ _ => rfl) _ _ _ _ _ _ lo (by decide) (by omega) (by decide) (by decide)
  have e := (jtg_D (f := fun k => (σ 62 k).toInt) (N := (σ 55 10).toInt) (z := z) (fun k hk => by have := s3 k (by omega); omega) z1).symm
  rw [show (σ 55 10).toInt.toNat = n by omega] at e
  exact e
theorem jol_d : ∀ (k : Nat) (p : Int) (a b c d : Nat) (x : Int), x ∈ jol k p a b c d → x / 10 ^ k = p ∧ ∀ z : Nat, z < k → 0 ≤ x / 10 ^ z % 10 ∧ x / 10 ^ z % 10 ≤ 3
  | 0, p, _, _, _, _, x, h => by
    rw [jol, List.mem_singleton] at h
    rw [h]
    exact ⟨by rw [Int.pow_zero, Int.ediv_one], fun z hz => absurd hz (by omega)⟩
  | k + 1, p, a, b, c, d, x, h => by
    have st : ∀ (s : Int) (a b c d : Nat), 0 ≤ s → s ≤ 3 → x ∈ jol k (10 * p + s) a b c d → x / 10 ^ (k + 1) = p ∧ ∀ z : Nat, z < k + 1 → 0 ≤ x / 10 ^ z % 10 ∧ x / 10 ^ z % 10 ≤ 3 := fun s a b c d s0 s3 h => by
      have q := jol_d k (10 * p + s) a b c d x h
      refine ⟨?_, fun z hz => ?_⟩
      · rw [Int.pow_succ, ← Int.ediv_ediv_of_nonneg (Int.le_of_lt (Int.pow_pos (by decide))), q.1]; omega
      · by_cases e : z = k
        · rw [e, q.1]; omega
        · exact q.2 z (by omega)
    rw [jol, List.mem_append, List.mem_append, List.mem_append] at h
    rcases h with h | h | h | h
    · split at h
      · exact st 0 _ _ _ _ (by decide) (by decide) (by rw [Int.add_zero]; exact h)
      · exact absurd h List.not_mem_nil
    · split at h
      · exact st 1 _ _ _ _ (by decide) (by decide) h
      · exact absurd h List.not_mem_nil
    · split at h
      · exact st 2 _ _ _ _ (by decide) (by decide) h
      · exact absurd h List.not_mem_nil
    · split at h
      · exact st 3 _ _ _ _ (by decide) (by decide) h
      · exact absurd h List.not_mem_nil
/-- both the same -/
noncomputable def jcTh (σ : Nat → Nat → Int32) (c : Nat → Nat) : Int × Int := jfc (jcVd σ) (-1, 0) (jvs 120 (jsd (c 0) (c 1) (c 2) (c 3)))
theorem jqSm.th {σ : Nat → Nat → Int32} (h : jqSm σ) (hf : (σ 2 1).toInt = (σ 55 9).toInt) (f0 : 0 ≤ (σ 55 9).toInt ∧ (σ 55 9).toInt ≤ 3) (R0 : 0 ≤ (σ 16 2).toInt ∧ (σ 16 2).toInt ≤ 999) (N1 : 1 ≤ (σ 55 10).toInt) (N5 : (σ 55 10).toInt ≤ 5) (d0 : Int) : jcTh σ (fun s => jcs (σ 17) (s : Int) (σ 16 0).toInt.toNat) = jfr (jrVd σ) (-1, d0) (jolF (σ 55 10).toInt.toNat 0 (fun s => jcs (σ 62) (s : Int) (σ 55 10).toInt.toNat)) := by
  have hh := h
  obtain ⟨⟨hB, h4, hN, N8, hT, T12, hR⟩, num, tc, bl, so, s3, ok⟩ := h
  rw [hN]
  have e : ∀ s : Int, jcs (σ 17) s (σ 55 10).toInt.toNat = jcs (σ 62) s (σ 55 10).toInt.toNat := fun s => jcs_eq _ (fun z hz => so z (by omega))
  simp only [e]
  have r3 : ∀ k : Nat, k < (σ 55 10).toInt.toNat → 0 ≤ (σ 62 k).toInt ∧ (σ 62 k).toInt ≤ 3 := fun k hk => by
    rw [← so k (by omega)]; exact s3 k (by omega)
  have al := jcs_all (f := σ 62) (σ 55 10).toInt.toNat r3
  unfold jcTh jolF
  simp only [Int.natCast_zero, Int.natCast_one, show ((2 : Nat) : Int) = 2 from rfl, show ((3 : Nat) : Int) = 3 from rfl]
  have sm := jol_same (a := jcs (σ 62) 0 (σ 55 10).toInt.toNat) (b := jcs (σ 62) 1 (σ 55 10).toInt.toNat) (c := jcs (σ 62) 2 (σ 55 10).toInt.toNat) (d := jcs (σ 62) 3 (σ 55 10).toInt.toNat) al.symm (by omega) (by omega)
  have hy : jtD (jtG (jsd (jcs (σ 62) 0 (σ 55 10).toInt.toNat) (jcs (σ 62) 1 (σ 55 10).toInt.toNat) (jcs (σ 62) 2 (σ 55 10).toInt.toNat) (jcs (σ 62) 3 (σ 55 10).toInt.toNat))) (jsd (jcs (σ 62) 0 (σ 55 10).toInt.toNat) (jcs (σ 62) 1 (σ 55 10).toInt.toNat) (jcs (σ 62) 2 (σ 55 10).toInt.toNat) (jcs (σ 62) 3 (σ 55 10).toInt.toNat)).length ∈ jol (σ 55 10).toInt.toNat 0 (jcs (σ 62) 0 (σ 55 10).toInt.toNat) (jcs (σ 62) 1 (σ 55 10).toInt.toNat) (jcs (σ 62) 2 (σ 55 10).toInt.toNat) (jcs (σ 62) 3 (σ 55 10).toInt.toNat) := (sm.1 _).mp (by rw [jvs]; exact List.mem_cons_self)
  refine jfc_fr sm.1 sm.2 (fun x hx => ⟨hh.vd hf f0 (fun z hz => ?_), jcVd_0 R0⟩) hy
  unfold jtg
  exact (jol_d _ _ _ _ _ _ x hx).2 _ (by omega)
where
  jcs_eq {f g : Nat → Int32} {s : Int} : ∀ n : Nat, (∀ z : Nat, z < n → f z = g z) → jcs f s n = jcs g s n
  | 0, _ => rfl
  | n + 1, h => by
    show jcs f s n + (if (f n).toInt = s then 1 else 0) = jcs g s n + (if (g n).toInt = s then 1 else 0)
    rw [jcs_eq n (fun z hz => h z (by omega)), h n (by omega)]

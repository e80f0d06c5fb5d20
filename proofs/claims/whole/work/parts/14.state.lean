/-! The state that class and model share, and what each call answers and does, in one text for both. -/
-- page, gym, routine, changes, tried, gyms read, bests done, the image (kept?, its routine, changes, tried)
abbrev br_A : Type := br_Pg × br_Gy × br_Ro × Int × br_Tr × Nat × Nat × Bool × br_Ro × Int × br_Tr
def br_b2 (b : Bool) : Int := if b = true then 1 else 0
def br_CR (σ : br_Wd) : br_A → Prop
  | (w, g, r, c, t, n, b, kp, r2, c2, t2) => (br_PC σ w ∧ br_GC σ g ∧ br_RC 7 σ r ∧ br_TC 15 σ t) ∧ (σ.1 0 4 = br_J c ∧ σ.1 0 11 = br_J n ∧ σ.1 0 12 = br_J b ∧ σ.1 0 5 = br_J (br_b2 kp)) ∧ (kp = true → br_RC 9 σ r2 ∧ br_TC 19 σ t2 ∧ σ.1 0 8 = br_J c2)
def br_Aok : br_A → Prop
  | (w, g, r, _, t, n, b, kp, r2, _, t2) => (br_Pok w ∧ br_Gok g ∧ br_Rok g r ∧ br_Tok g t) ∧ (b ≤ 30 ∧ n ≤ 512) ∧ (kp = true → br_Rok g r2 ∧ br_Tok g t2)
/-- the model's cells are as they were; the class' cells are as they were -/
def br_fc (σ τ : br_Wd) : Prop := (∀ p : Nat, 23 ≤ p → τ.1 p = σ.1 p) ∧ τ.2 = σ.2
def br_fm (σ τ : br_Wd) : Prop := ∀ p : Nat, p < 23 → τ.1 p = σ.1 p
theorem br_fc.rfl {σ : br_Wd} : br_fc σ σ := ⟨fun _ _ => Eq.refl _, Eq.refl _⟩
theorem br_fm.rfl {σ : br_Wd} : br_fm σ σ := fun _ _ => Eq.refl _
theorem br_sm.fc {qs : List Nat} {σ τ : br_Wd} (h : br_sm qs σ τ) (hq : ∀ q ∈ qs, q < 23) : br_fc σ τ := ⟨fun p hp => h.1 p (fun hm => by have := hq p hm; omega), h.2⟩
theorem br_sm.fm {qs : List Nat} {σ τ : br_Wd} (h : br_sm qs σ τ) (hq : ∀ q ∈ qs, 23 ≤ q) : br_fm σ τ := fun p hp => h.1 p (fun hm => by have := hq p hm; omega)
theorem br_fc.trans {σ τ υ : br_Wd} (h1 : br_fc σ τ) (h2 : br_fc τ υ) : br_fc σ υ := ⟨fun p hp => (h2.1 p hp).trans (h1.1 p hp), h2.2.trans h1.2⟩
theorem br_fm.trans {σ τ υ : br_Wd} (h1 : br_fm σ τ) (h2 : br_fm τ υ) : br_fm σ υ := fun p hp => (h2 p hp).trans (h1 p hp)
theorem br_CR.keep {σ τ : br_Wd} {A : br_A} (h : br_CR σ A) (e : ∀ p : Nat, p < 23 → p ≤ 10 ∨ 15 ≤ p → τ.1 p = σ.1 p) : br_CR τ A := by
  obtain ⟨w, g, r, c, t, n, b, kp, r2, c2, t2⟩ := A
  obtain ⟨⟨h1, h2, h3, h4⟩, ⟨h5, h6, h7, h8⟩, h9⟩ := h
  have e0 := e 0 (by omega) (by omega); have e1 := e 1 (by omega) (by omega); have e2 := e 2 (by omega) (by omega); have e3 := e 3 (by omega) (by omega)
  have e4 := e 4 (by omega) (by omega); have e5 := e 5 (by omega) (by omega); have e6 := e 6 (by omega) (by omega); have e7 := e 7 (by omega) (by omega)
  have e8 := e 8 (by omega) (by omega); have e9 := e 9 (by omega) (by omega); have e10 := e 10 (by omega) (by omega)
  have e15 := e 15 (by omega) (by omega); have e16 := e 16 (by omega) (by omega); have e17 := e 17 (by omega) (by omega); have e18 := e 18 (by omega) (by omega)
  have e19 := e 19 (by omega) (by omega); have e20 := e 20 (by omega) (by omega); have e21 := e 21 (by omega) (by omega); have e22 := e 22 (by omega) (by omega)
  refine ⟨⟨?_, ?_, ?_, ?_⟩, ⟨?_, ?_, ?_, ?_⟩, fun hk => ⟨?_, ?_, ?_⟩⟩
  · exact ⟨by rw [e1]; exact h1.1, fun j hj => by rw [e2]; exact h1.2 j hj⟩
  · exact ⟨by rw [e3]; exact h2.1, fun j hj => by rw [e4]; exact h2.2.1 j hj, fun j hj => by rw [e5]; exact h2.2.2.1 j hj, fun j hj => by rw [e6]; exact h2.2.2.2 j hj⟩
  · exact ⟨by rw [e7]; exact h3.1, fun j hj => by rw [e8]; exact h3.2 j hj⟩
  · exact ⟨by rw [e15]; exact h4.1, fun j hj => by rw [e16]; exact h4.2.1 j hj, fun j hj => by rw [e17]; exact h4.2.2.1 j hj, fun j hj => by rw [e18]; exact h4.2.2.2 j hj⟩
  · rw [e0]; exact h5
  · rw [e0]; exact h6
  · rw [e0]; exact h7
  · rw [e0]; exact h8
  · have h := (h9 hk).1
    exact ⟨by rw [e9]; exact h.1, fun j hj => by rw [e10]; exact h.2 j hj⟩
  · have h := (h9 hk).2.1
    exact ⟨by rw [e19]; exact h.1, fun j hj => by rw [e20]; exact h.2.1 j hj, fun j hj => by rw [e21]; exact h.2.2.1 j hj, fun j hj => by rw [e22]; exact h.2.2.2 j hj⟩
  · rw [e0]; exact (h9 hk).2.2
/-- a call of the class: it answers x, and its world is that of A behind it -/
abbrev br_QC (x : Int32) (A : br_A) (σ : br_Wd) : br_post := fun v τ => v = some (br_i x) ∧ br_CR τ A ∧ br_fc σ τ
theorem br_QC.of {d : Nat} {Y : br_Y} {args : List br_V} {σ : br_Wd} {x : Int32} {A : br_A} (h : br_Met d Y args σ (br_R x σ)) (hc : br_CR σ A) : br_Met d Y args σ (br_QC x A σ) := h.to (fun v τ q => by
  obtain ⟨rfl, rfl⟩ := q
  exact ⟨Eq.refl _, hc, br_fc.rfl⟩)
-- lowest terms
def br_gcd (a b : Int) : Int := ((Nat.gcd a.toNat b.toNat : Nat) : Int)
def br_lo (a b k : Int) : Int := (if k = 0 then a else b) / br_gcd a b
theorem br_gcd_pos {a b : Int} (hb : 0 < b) : 0 < br_gcd a b ∧ br_gcd a b ≤ b := by
  unfold br_gcd
  have h1 := Nat.gcd_pos_of_pos_right a.toNat (show 0 < b.toNat by omega)
  have h2 := Nat.gcd_le_right a.toNat (show 0 < b.toNat by omega)
  omega
theorem br_gcd_step {x y : Int} (hx : 0 ≤ x) (hy : 0 < y) : br_gcd y (x % y) = br_gcd x y := by
  unfold br_gcd
  have e : (x % y).toNat = x.toNat % y.toNat := by
    rw [Int.toNat_emod hx (by omega)]
  rw [e, Nat.gcd_comm x.toNat y.toNat, Nat.gcd_rec y.toNat x.toNat, Nat.gcd_comm]
theorem br_gcd_zero {x : Int} (hx : 0 ≤ x) : br_gcd x 0 = x := by
  unfold br_gcd
  rw [show (0 : Int).toNat = 0 from rfl, Nat.gcd_zero_right]
  omega
-- what the calls answer
def br_vFault : br_A → Int
  | (w, _) => (br_fault w : Nat)
def br_vPiece (A : br_A) (z k : Int) : Int32 := match A with
  | (_, g, r, _, t, _) => if ¬ (0 ≤ z ∧ z < g.1) then br_J (-101) else if k = 0 then br_J (br_gK g z.toNat) else if k = 1 then br_J (br_gW g z.toNat) else if k = 2 then br_J (br_gS g z.toNat) else if k = 3 then br_J (br_po r z) else if k = 4 then br_J (if br_po r z = -1 then -1 else br_cr g r (br_po r z).toNat) else if k = 5 then br_sures g t z.toNat else if k = 6 then br_J (br_likely g t z.toNat) else br_J (-102)
def br_vAs (A : br_A) (z kd : Int) : Int := match A with
  | (_, g, _) => if ¬ (0 ≤ z ∧ z < g.1) then -101 else if ¬ (0 ≤ kd ∧ kd ≤ 4) then -102 else if br_isP g z kd then z else -1
def br_vAt (A : br_A) (z : Int) : Int := match A with
  | (_, _, r, _) => if 0 ≤ z ∧ z < r.1 then (r.2 z.toNat : Nat) else -101
def br_vScore (A : br_A) (z : Int) : Int := match A with
  | (_, g, r, _) => if ¬ (0 ≤ z ∧ z < (2 ^ r.1 : Nat)) then -102 else if g.1 = 0 then -103 else br_pt g r z.toNat + 200
def br_vMean (A : br_A) (k : Int) : Int := match A with
  | (_, g, r, _) => if ¬ (k = 0 ∨ k = 1) then -102 else if g.1 = 0 then -103 else br_lo (br_mh g r) 100 k
def br_vOdds (A : br_A) (s k : Int) : Int := match A with
  | (_, g, r, _) => if ¬ ((-100 ≤ s ∧ s ≤ 100) ∧ (k = 0 ∨ k = 1)) then -102 else if g.1 = 0 then -103 else br_lo (br_od g r s) ((10 : Int) ^ r.1) k
def br_vCount (A : br_A) (k : Int) : Int := match A with
  | (w, g, r, c, t, n, b, _) => if k = 0 then g.1 else if k = 1 then r.1 else if k = 2 then br_nF g r else if k = 3 then br_nT g r else if k = 4 then br_nJ g r else if k = 5 then c else if k = 6 then t.1 else if k = 7 then w.1 else if k = 8 then n else if k = 9 then b else -102
def br_sLetter (A : br_A) (z : Int) : Int × br_A := match A with
  | (w, u) => if ¬ (1 ≤ z ∧ z ≤ 126) then (-102, (w, u)) else if 30 ≤ w.1 then (-104, (w, u)) else ((w.1 : Int) + 1, ((w.1 + 1, fun j => if j = w.1 then z else w.2 j), u))
def br_sBlank (A : br_A) : Int × br_A := match A with
  | (w, u) => (w.1, ((0, w.2), u))
def br_sPut (A : br_A) (z : Int) : Int × br_A := match A with
  | (w, g, r, c, u) => if ¬ (0 ≤ z ∧ z < g.1) then (-101, A) else if ¬ br_po r z = -1 then (-103, A) else if 5 ≤ r.1 then (-104, A) else (r.1, (w, g, br_app r z.toNat, c + 1, u))
def br_sTake (A : br_A) (z : Int) : Int × br_A := match A with
  | (w, g, r, c, u) => if ¬ (0 ≤ z ∧ z < r.1) then (-101, A) else ((r.2 z.toNat : Nat), (w, g, br_rem r z.toNat, c + 1, u))
def br_sSwap (A : br_A) (x y : Int) : Int × br_A := match A with
  | (w, g, r, c, u) => if ¬ ((0 ≤ x ∧ x < r.1) ∧ (0 ≤ y ∧ y < r.1)) then (-101, A) else (c + 1, (w, g, br_swp r x.toNat y.toNat, c + 1, u))
def br_sTry (A : br_A) (z b : Int) (s : Nat) : Int × br_A := match A with
  | (w, g, r, c, t, u) => if ¬ (0 ≤ z ∧ z < g.1) then (-101, A) else if ¬ (0 ≤ b ∧ b ≤ 4) then (-102, A) else if 8 ≤ t.1 then (-104, A) else ((t.1 : Int) + 1, (w, g, r, c, br_tadd t z.toNat b.toNat s, u))
def br_sForget (A : br_A) : Int × br_A := match A with
  | (w, g, r, c, t, u) => (t.1, (w, g, r, c, (0, t.2), u))
def br_sImage (A : br_A) : Int × br_A := match A with
  | (w, g, r, c, t, n, b, _) => if g.1 = 0 then (-103, A) else (c, (w, g, r, c, t, n, b, true, r, c, t))
def br_sRestore (A : br_A) : Int × br_A := match A with
  | (w, g, _, _, _, n, b, kp, r2, c2, t2) => if kp = true then (c2, (w, g, r2, c2, t2, n, b, kp, r2, c2, t2)) else (-103, A)
def br_gy (w : br_Pg) : br_Gy := ((w.1 + 1) / 4, fun j => br_kd (w.2 (4 * j)), fun j => w.2 (4 * j + 1) - 48, fun j => w.2 (4 * j + 2) - 48)
def br_sGym (A : br_A) : Int × br_A := match A with
  | (w, _, r, _, t, n, b, _, u) => if br_tells w then (((br_gy w).1 : Nat), ((0, w.2), br_gy w, (0, r.2), 0, (0, t.2), n + 1, b, false, u)) else (-103, A)
theorem br_mt_bnd {g : br_Gy} {r : br_Ro} (hg : br_Gok g) (hr : br_Rok g r) (i : Nat) (hi : i < r.1) : -1000 ≤ br_mt g r i ∧ br_mt g r i ≤ 1100 := by
  have h1 := (hg.2 _ (hr.2.1 i hi)).2.1
  have h2 := br_jw_bnd g r i
  have h3 := br_cr_bnd hg hr i
  have h4 := br_cr_bnd hg hr (i + 1)
  have a1 := Int.mul_nonneg h3.1 (show 0 ≤ br_gW g (r.2 i) by omega)
  have a2 := Int.mul_le_mul h3.2 h1.2 (show 0 ≤ br_gW g (r.2 i) by omega) (show (0 : Int) ≤ 9 by omega)
  have b1 := Int.mul_nonneg h3.1 h4.1
  have b2 := Int.mul_le_mul h3.2 h4.2 h4.1 (show (0 : Int) ≤ 9 by omega)
  have c1 := Int.mul_nonneg b1 h2.1
  have c2 := Int.mul_le_mul b2 h2.2 h2.1 (show (0 : Int) ≤ 9 * 9 by omega)
  unfold br_mt
  omega
theorem br_mh_bnd {g : br_Gy} {r : br_Ro} (hg : br_Gok g) (hr : br_Rok g r) : 14000 ≤ br_mh g r ∧ br_mh g r ≤ 25500 := by
  have h1 := br_pen_bnd g r
  have h2 := br_sum_bnd (f := br_mt g r) (n := r.1) (a := -1000) (b := 1100) (fun j hj => br_mt_bnd hg hr j hj)
  have h3 := hr.1
  unfold br_mh
  omega

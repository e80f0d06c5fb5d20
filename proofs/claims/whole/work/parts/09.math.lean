/-! What the system speaks of, in whole numbers: a gym, a row of pieces, scores, ways; and how the worlds of class and model hold them. -/
-- a gym: how many pieces; kind, worth, sureness of each
abbrev br_Gy : Type := Nat × (Nat → Int) × (Nat → Int) × (Nat → Int)
abbrev br_gK (g : br_Gy) : Nat → Int := g.2.1
abbrev br_gW (g : br_Gy) : Nat → Int := g.2.2.1
abbrev br_gS (g : br_Gy) : Nat → Int := g.2.2.2
def br_Gok (g : br_Gy) : Prop := g.1 ≤ 7 ∧ ∀ j : Nat, j < g.1 → (0 ≤ br_gK g j ∧ br_gK g j ≤ 4) ∧ (1 ≤ br_gW g j ∧ br_gW g j ≤ 9) ∧ 1 ≤ br_gS g j ∧ br_gS g j ≤ 9
def br_GC (σ : br_Wd) (g : br_Gy) : Prop := σ.1 3 3 = br_J g.1 ∧ (∀ j : Nat, j < g.1 → σ.1 4 j = br_J (br_gK g j)) ∧ (∀ j : Nat, j < g.1 → σ.1 5 j = br_J (br_gW g j)) ∧ ∀ j : Nat, j < g.1 → σ.1 6 j = br_J (br_gS g j)
def br_GM (σ : br_Wd) (g : br_Gy) : Prop := σ.1 23 2 = br_J g.1 ∧ (∀ j : Nat, j < g.1 → σ.1 25 (3 * j) = br_J (br_gK g j)) ∧ (∀ j : Nat, j < g.1 → σ.1 25 (3 * j + 1) = br_J (br_gW g j)) ∧ ∀ j : Nat, j < g.1 → σ.1 25 (3 * j + 2) = br_J (br_gS g j)
-- a row of pieces
abbrev br_Ro : Type := Nat × (Nat → Nat)
def br_Rok (g : br_Gy) (r : br_Ro) : Prop := r.1 ≤ 5 ∧ (∀ j : Nat, j < r.1 → r.2 j < g.1) ∧ ∀ i j : Nat, i < r.1 → j < r.1 → r.2 i = r.2 j → i = j
def br_RC (q : Nat) (σ : br_Wd) (r : br_Ro) : Prop := σ.1 q 2 = br_J r.1 ∧ ∀ j : Nat, j < r.1 → σ.1 (q + 1) j = br_J (r.2 j)
def br_RM (a : Nat) (σ : br_Wd) (r : br_Ro) : Prop := ∀ j : Nat, j < r.1 → σ.1 a j = br_J (r.2 j)
-- what the class' gym answers for any number
def br_kO (g : br_Gy) (z : Int) : Int := if 0 ≤ z ∧ z < g.1 then br_gK g z.toNat else -1
def br_wO (g : br_Gy) (z : Int) : Int := if 0 ≤ z ∧ z < g.1 then br_gW g z.toNat else 0
def br_sO (g : br_Gy) (z : Int) : Int := if 0 ≤ z ∧ z < g.1 then br_gS g z.toNat else 0
abbrev br_isP (g : br_Gy) (z kd : Int) : Prop := (0 ≤ z ∧ z < g.1) ∧ (kd = 0 ∨ kd = br_gK g z.toNat ∨ kd = 1 ∧ br_gK g z.toNat = 4)
abbrev br_isF (g : br_Gy) (p : Nat) : Prop := br_gK g p = 1 ∨ br_gK g p = 4
abbrev br_isT (g : br_Gy) (p : Nat) : Prop := br_gK g p = 2
/-- how often of ten -/
def br_ch (kd su pl : Int) : Int := max 0 (su - if kd = 3 then 0 else max 0 (pl - 2))
def br_sum (f : Nat → Int) : Nat → Int
  | 0 => 0
  | n + 1 => br_sum f n + f n
def br_prod (f : Nat → Int) : Nat → Int
  | 0 => 1
  | n + 1 => br_prod f n * f n
def br_kd (c : Int) : Int := if c = 112 then 0 else if c = 102 then 1 else if c = 116 then 2 else if c = 104 then 3 else if c = 114 then 4 else -1
abbrev br_fit (p : Nat) (c : Int) : Prop := p < 27 ∧ ((p % 4 = 0 ∧ ¬ br_kd c = -1) ∨ (p % 4 = 3 ∧ c = 44) ∨ ((p % 4 = 1 ∨ p % 4 = 2) ∧ 49 ≤ c ∧ c ≤ 57))
-- a page: how many letters, their codes
abbrev br_Pg : Type := Nat × (Nat → Int)
def br_Pok (w : br_Pg) : Prop := w.1 ≤ 30 ∧ ∀ j : Nat, j < w.1 → 1 ≤ w.2 j ∧ w.2 j ≤ 126
def br_PC (σ : br_Wd) (w : br_Pg) : Prop := σ.1 1 1 = br_J w.1 ∧ ∀ j : Nat, j < w.1 → σ.1 2 j = br_J (w.2 j)
def br_PM (σ : br_Wd) (w : br_Pg) : Prop := σ.1 23 1 = br_J w.1 ∧ ∀ j : Nat, j < w.1 → σ.1 24 j = br_J (w.2 j)
/-- the first place from k on, of the n that are left, that no gym has -/
def br_ff (w : br_Pg) : Nat → Nat → Nat
  | _, 0 => w.1
  | k, n + 1 => if br_fit k (w.2 k) then br_ff w (k + 1) n else k
def br_fault (w : br_Pg) : Nat := br_ff w 0 w.1
-- rows: where a piece is, what is put, taken, changed about
def br_lst (p : Nat → Bool) : Nat → Int
  | 0 => -1
  | n + 1 => if p n = true then n else br_lst p n
theorem br_lst_bnd (p : Nat → Bool) (n : Nat) : -1 ≤ br_lst p n ∧ br_lst p n < n := by
  induction n with
  | zero => exact ⟨Int.le_refl _, by show (-1 : Int) < 0; omega⟩
  | succ n ih => unfold br_lst; split <;> omega
theorem br_lst_none (p : Nat → Bool) (n : Nat) (h : ∀ j : Nat, j < n → p j = false) : br_lst p n = -1 := by
  induction n with
  | zero => rfl
  | succ n ih => unfold br_lst; rw [h n (by omega), if_neg (by decide)]; exact ih (fun j hj => h j (by omega))
theorem br_lst_one (p : Nat → Bool) (n i : Nat) (hi : i < n) (hp : p i = true) (hu : ∀ j : Nat, j < n → p j = true → j = i) : br_lst p n = i := by
  induction n with
  | zero => omega
  | succ n ih =>
    unfold br_lst
    by_cases h : p n = true
    · rw [if_pos h, hu n (by omega) h]
    · rw [if_neg h]
      have hne : i ≠ n := fun e => h (by rw [← e]; exact hp)
      exact ih (by omega) (fun j hj => hu j (by omega))
theorem br_lst_congr {p p' : Nat → Bool} {n : Nat} (h : ∀ j : Nat, j < n → p j = p' j) : br_lst p n = br_lst p' n := by
  induction n with
  | zero => rfl
  | succ n ih => unfold br_lst; rw [h n (by omega), ih (fun j hj => h j (by omega))]
theorem br_lst_some (p : Nat → Bool) (n : Nat) (h : ¬ br_lst p n = -1) : 0 ≤ br_lst p n ∧ p (br_lst p n).toNat = true := by
  induction n with
  | zero => exact absurd rfl h
  | succ n ih =>
    unfold br_lst at h ⊢
    by_cases hp : p n = true
    · rw [if_pos hp]; exact ⟨by omega, by simpa using hp⟩
    · rw [if_neg hp] at h ⊢; exact ih h
def br_po (r : br_Ro) (z : Int) : Int := br_lst (fun j => decide (((r.2 j : Nat) : Int) = z)) r.1
def br_pO (r : br_Ro) (z : Int) : Int := if 0 ≤ z ∧ z < r.1 then ((r.2 z.toNat : Nat) : Int) else -1
def br_app (r : br_Ro) (p : Nat) : br_Ro := (r.1 + 1, fun j => if j = r.1 then p else r.2 j)
def br_rem (r : br_Ro) (k : Nat) : br_Ro := (r.1 - 1, fun j => if j < k then r.2 j else r.2 (j + 1))
def br_swp (r : br_Ro) (a b : Nat) : br_Ro := (r.1, fun j => if j = b then r.2 a else if j = a then r.2 b else r.2 j)
def br_sm (qs : List Nat) (σ τ : br_Wd) : Prop := (∀ p : Nat, p ∉ qs → τ.1 p = σ.1 p) ∧ τ.2 = σ.2
theorem br_sm.rfl {qs : List Nat} {σ : br_Wd} : br_sm qs σ σ := ⟨fun _ _ => Eq.refl _, Eq.refl _⟩
theorem br_sm.up {qs : List Nat} {σ τ : br_Wd} {q k : Nat} {x : Int32} (h : br_sm qs σ τ) (hq : q ∈ qs) : br_sm qs σ (br_up τ q k x) := by
  refine ⟨fun p hp => ?_, h.2⟩
  have hne : ¬ p = q := fun e => hp (by rw [e]; exact hq)
  rw [← h.1 p hp]
  funext j
  simp [br_up, hne]
theorem br_sm.trans {qs : List Nat} {σ τ υ : br_Wd} (h1 : br_sm qs σ τ) (h2 : br_sm qs τ υ) : br_sm qs σ υ := ⟨fun p hp => (h2.1 p hp).trans (h1.1 p hp), h2.2.trans h1.2⟩
theorem br_sm.mono {qs qs' : List Nat} {σ τ : br_Wd} (h : br_sm qs σ τ) (hs : ∀ q ∈ qs, q ∈ qs') : br_sm qs' σ τ := ⟨fun p hp => h.1 p (fun hq => hp (hs p hq)), h.2⟩
-- sums and products
theorem br_sum_congr {f f' : Nat → Int} {n : Nat} (h : ∀ j : Nat, j < n → f j = f' j) : br_sum f n = br_sum f' n := by
  induction n with
  | zero => rfl
  | succ n ih => unfold br_sum; rw [h n (by omega), ih (fun j hj => h j (by omega))]
theorem br_prod_congr {f f' : Nat → Int} {n : Nat} (h : ∀ j : Nat, j < n → f j = f' j) : br_prod f n = br_prod f' n := by
  induction n with
  | zero => rfl
  | succ n ih => unfold br_prod; rw [h n (by omega), ih (fun j hj => h j (by omega))]
theorem br_sum_bnd {f : Nat → Int} {n : Nat} {a b : Int} (h : ∀ j : Nat, j < n → a ≤ f j ∧ f j ≤ b) : n * a ≤ br_sum f n ∧ br_sum f n ≤ n * b := by
  induction n with
  | zero => simp [br_sum]
  | succ n ih =>
    have h1 := ih (fun j hj => h j (by omega))
    have h2 := h n (by omega)
    have e1 : ((n + 1 : Nat) : Int) * a = n * a + a := by rw [Int.natCast_add, Int.add_mul]; simp
    have e2 : ((n + 1 : Nat) : Int) * b = n * b + b := by rw [Int.natCast_add, Int.add_mul]; simp
    unfold br_sum
    omega
theorem br_prod_bnd {f : Nat → Int} {n : Nat} (h : ∀ j : Nat, j < n → 0 ≤ f j ∧ f j ≤ 10) : 0 ≤ br_prod f n ∧ br_prod f n ≤ 10 ^ n := by
  induction n with
  | zero => simp [br_prod]
  | succ n ih =>
    have h1 := ih (fun j hj => h j (by omega))
    have h2 := h n (by omega)
    unfold br_prod
    refine ⟨Int.mul_nonneg h1.1 h2.1, ?_⟩
    rw [Int.pow_succ]
    exact Int.mul_le_mul h1.2 h2.2 h2.1 (Int.le_trans h1.1 h1.2)
-- bits of falls
theorem br_shr {f i : Nat} (hf : f < 32) (hi : i < 6) : br_J f >>> (br_J i &&& 31) = br_J ((f >>> i : Nat) : Int) := by
  have key : ∀ f : Fin 32, ∀ i : Fin 6, br_J (f : Nat) >>> (br_J (i : Nat) &&& 31) = br_J (((f : Nat) >>> (i : Nat) : Nat) : Int) := by decide +kernel
  exact key ⟨f, hf⟩ ⟨i, hi⟩
theorem br_and1 {a : Nat} (ha : a < 32) : br_J a &&& br_J 1 = br_J ((a % 2 : Nat) : Int) := by
  have key : ∀ a : Fin 32, br_J (a : Nat) &&& br_J 1 = br_J (((a : Nat) % 2 : Nat) : Int) := by decide +kernel
  exact key ⟨a, ha⟩
theorem br_and3 {a : Nat} (ha : a < 32) : br_J a &&& br_J 3 = br_J ((a % 4 : Nat) : Int) := by
  have key : ∀ a : Fin 32, br_J (a : Nat) &&& br_J 3 = br_J (((a : Nat) % 4 : Nat) : Int) := by decide +kernel
  exact key ⟨a, ha⟩
theorem br_shr_lt {f i : Nat} (hf : f < 32) : f >>> i < 32 := Nat.lt_of_le_of_lt (by rw [Nat.shiftRight_eq_div_pow]; exact Nat.div_le_self _ _) hf
/-- a fall at place i -/
abbrev br_fl (f i : Nat) : Prop := (f >>> i) % 2 = 1
theorem br_mod4 (f i : Nat) : (f >>> i) % 4 = 0 ↔ ¬ br_fl f i ∧ ¬ br_fl f (i + 1) := by
  have : f >>> (i + 1) = f >>> i / 2 := by rw [Nat.shiftRight_succ]
  unfold br_fl
  rw [this]
  omega
-- what a row brings
def br_jw (g : br_Gy) (r : br_Ro) (i : Nat) : Int := if i + 1 < r.1 ∧ br_isF g (r.2 i) ∧ (br_isF g (r.2 (i + 1)) ∨ br_isT g (r.2 (i + 1))) then (if br_gK g (r.2 i) = 4 then 3 else 2) else 0
def br_nF (g : br_Gy) (r : br_Ro) : Int := br_sum (fun i => if br_isF g (r.2 i) then 1 else 0) r.1
def br_nT (g : br_Gy) (r : br_Ro) : Int := br_sum (fun i => if br_isT g (r.2 i) then 1 else 0) r.1
def br_nJ (g : br_Gy) (r : br_Ro) : Int := br_sum (fun i => if 0 < br_jw g r i then 1 else 0) r.1
def br_pen (g : br_Gy) (r : br_Ro) : Int := (if br_nF g r = 0 then 5 else 0) + (if br_nT g r = 0 then 5 else 0)
def br_gt (g : br_Gy) (r : br_Ro) (f i : Nat) : Int := (if br_fl f i then -10 else br_gW g (r.2 i)) + (if ¬ br_fl f i ∧ ¬ br_fl f (i + 1) then br_jw g r i else 0)
def br_gn (g : br_Gy) (r : br_Ro) (f : Nat) : Int := br_sum (br_gt g r f) r.1
def br_pt (g : br_Gy) (r : br_Ro) (f : Nat) : Int := br_gn g r f - br_pen g r
def br_cr (g : br_Gy) (r : br_Ro) (i : Nat) : Int := if i < r.1 then br_ch (br_gK g (r.2 i)) (br_gS g (r.2 i)) i else 0
def br_wt (g : br_Gy) (r : br_Ro) (f i : Nat) : Int := if br_fl f i then 10 - br_cr g r i else br_cr g r i
def br_wy (g : br_Gy) (r : br_Ro) (f : Nat) : Int := br_prod (br_wt g r f) r.1
def br_od (g : br_Gy) (r : br_Ro) (s : Int) : Int := br_sum (fun f => if s ≤ br_pt g r f then br_wy g r f else 0) (2 ^ r.1)
def br_mt (g : br_Gy) (r : br_Ro) (i : Nat) : Int := 10 * (br_cr g r i * br_gW g (r.2 i) - 10 * (10 - br_cr g r i)) + br_cr g r i * br_cr g r (i + 1) * br_jw g r i
def br_mh (g : br_Gy) (r : br_Ro) : Int := 100 * (200 - br_pen g r) + br_sum (br_mt g r) r.1
def br_mu (g : br_Gy) (r : br_Ro) : Int := br_sum (fun f => br_wy g r f * (br_pt g r f + 200)) (2 ^ r.1)
theorem br_jw_bnd (g : br_Gy) (r : br_Ro) (i : Nat) : 0 ≤ br_jw g r i ∧ br_jw g r i ≤ 3 := by
  unfold br_jw; split
  · split <;> omega
  · omega
theorem br_pen_bnd (g : br_Gy) (r : br_Ro) : 0 ≤ br_pen g r ∧ br_pen g r ≤ 10 := by
  unfold br_pen; split <;> split <;> omega
theorem br_ch_bnd {kd su : Int} {pl : Int} (h : 0 ≤ su ∧ su ≤ 9) : 0 ≤ br_ch kd su pl ∧ br_ch kd su pl ≤ 9 := by
  unfold br_ch; split <;> omega
theorem br_cr_bnd {g : br_Gy} {r : br_Ro} (hg : br_Gok g) (hr : br_Rok g r) (i : Nat) : 0 ≤ br_cr g r i ∧ br_cr g r i ≤ 9 := by
  unfold br_cr; split
  · rename_i h
    have := (hg.2 _ (hr.2.1 i h)).2.2
    exact br_ch_bnd ⟨by omega, this.2⟩
  · omega
theorem br_gt_bnd {g : br_Gy} {r : br_Ro} (hg : br_Gok g) (hr : br_Rok g r) (f i : Nat) (hi : i < r.1) : -10 ≤ br_gt g r f i ∧ br_gt g r f i ≤ 12 := by
  have h1 := (hg.2 _ (hr.2.1 i hi)).2.1
  have h2 := br_jw_bnd g r i
  unfold br_gt; split <;> split <;> omega
theorem br_gn_bnd {g : br_Gy} {r : br_Ro} (hg : br_Gok g) (hr : br_Rok g r) (f : Nat) : -50 ≤ br_gn g r f ∧ br_gn g r f ≤ 60 := by
  have := br_sum_bnd (f := br_gt g r f) (n := r.1) (a := -10) (b := 12) (fun j hj => br_gt_bnd hg hr f j hj)
  have := hr.1
  unfold br_gn; omega
theorem br_wt_bnd {g : br_Gy} {r : br_Ro} (hg : br_Gok g) (hr : br_Rok g r) (f i : Nat) : 0 ≤ br_wt g r f i ∧ br_wt g r f i ≤ 10 := by
  have := br_cr_bnd hg hr i
  unfold br_wt; split <;> omega
theorem br_pow10 {n : Nat} (h : n ≤ 5) : 1 ≤ (10 : Int) ^ n ∧ (10 : Int) ^ n ≤ 100000 := by
  have key : ∀ n : Fin 6, 1 ≤ (10 : Int) ^ (n : Nat) ∧ (10 : Int) ^ (n : Nat) ≤ 100000 := by decide +kernel
  exact key ⟨n, by omega⟩
theorem br_pow2 {n : Nat} (h : n ≤ 5) : 1 ≤ 2 ^ n ∧ 2 ^ n ≤ 32 := by
  have key : ∀ n : Fin 6, 1 ≤ 2 ^ (n : Nat) ∧ 2 ^ (n : Nat) ≤ 32 := by decide +kernel
  exact key ⟨n, by omega⟩
theorem br_wy_bnd {g : br_Gy} {r : br_Ro} (hg : br_Gok g) (hr : br_Rok g r) (f : Nat) : 0 ≤ br_wy g r f ∧ br_wy g r f ≤ 100000 := by
  have h1 := br_prod_bnd (f := br_wt g r f) (n := r.1) (fun j _ => br_wt_bnd hg hr f j)
  have h2 := (br_pow10 hr.1).2
  unfold br_wy; omega
theorem br_od_bnd {g : br_Gy} {r : br_Ro} (hg : br_Gok g) (hr : br_Rok g r) (s : Int) : 0 ≤ br_od g r s ∧ br_od g r s ≤ 3200000 := by
  have h1 := br_sum_bnd (f := fun f => if s ≤ br_pt g r f then br_wy g r f else 0) (n := 2 ^ r.1) (a := 0) (b := 100000) (fun j _ => by
    have := br_wy_bnd hg hr j
    split <;> omega)
  have h2 := br_pow2 hr.1
  unfold br_od; omega

/-! What MORE, BEST, MEETS and the digest are. -/
theorem br_lst_neg (p : Nat → Bool) (n : Nat) (h : br_lst p n = -1) : ∀ j : Nat, j < n → p j = false := by
  induction n with
  | zero => intro j hj; omega
  | succ n ih =>
    intro j hj
    unfold br_lst at h
    by_cases hp : p n = true
    · rw [if_pos hp] at h; omega
    · rw [if_neg hp] at h
      rcases Nat.lt_or_ge j n with q | q
      · exact ih h j q
      · rw [show j = n by omega]; simpa using hp
theorem br_po_neg {r : br_Ro} {p : Nat} (h : br_po r p = -1) : ∀ j : Nat, j < r.1 → ¬ r.2 j = p := fun j hj e => by
  have := br_lst_neg _ _ h j hj
  simp [e] at this
theorem br_po_neg' {r : br_Ro} {p : Nat} (h : ∀ j : Nat, j < r.1 → ¬ r.2 j = p) : br_po r p = -1 := br_lst_none _ _ (fun j hj => by
  have := h j hj
  simp only [decide_eq_false_iff_not]
  omega)
theorem br_Rok_app {g : br_Gy} {r : br_Ro} (hr : br_Rok g r) {p : Nat} (hp : p < g.1) (hn : br_po r p = -1) (h5 : r.1 < 5) : br_Rok g (br_app r p) := by
  have hno := br_po_neg hn
  refine ⟨by show r.1 + 1 ≤ 5; omega, fun j hj => ?_, fun i j hi hj e => ?_⟩
  · have hj2 : j < r.1 + 1 := hj
    show (if j = r.1 then p else r.2 j) < g.1
    split
    · exact hp
    · exact hr.2.1 j (by omega)
  · have hi2 : i < r.1 + 1 := hi
    have hj2 : j < r.1 + 1 := hj
    have e2 : (if i = r.1 then p else r.2 i) = (if j = r.1 then p else r.2 j) := e
    by_cases h1 : i = r.1 <;> by_cases h2 : j = r.1
    · omega
    · rw [if_pos h1, if_neg h2] at e2; exact absurd e2.symm (hno j (by omega))
    · rw [if_neg h1, if_pos h2] at e2; exact absurd e2 (hno i (by omega))
    · rw [if_neg h1, if_neg h2] at e2; exact hr.2.2 i j (by omega) (by omega) e2
-- MORE
def br_mo (g : br_Gy) (r : br_Ro) (s : Int) : Nat → Int × Int
  | 0 => (-1, br_od g r s * 10)
  | p + 1 => if br_po r p = -1 ∧ (br_mo g r s p).2 < br_od g (br_app r p) s then ((p : Int), br_od g (br_app r p) s) else br_mo g r s p
def br_vMore (A : br_A) (s : Int) : Int := match A with
  | (_, g, r, _) => if ¬ (-100 ≤ s ∧ s ≤ 100) then -102 else if g.1 = 0 ∨ 5 ≤ r.1 then -103 else (br_mo g r s g.1).1
theorem br_mo_bnd {g : br_Gy} {r : br_Ro} (hg : br_Gok g) (hr : br_Rok g r) (h5 : r.1 < 5) (s : Int) : ∀ p : Nat, p ≤ g.1 → 0 ≤ (br_mo g r s p).2 ∧ (br_mo g r s p).2 ≤ 32000000 := by
  intro p
  induction p with
  | zero => intro _; have := br_od_bnd hg hr s; exact ⟨by show 0 ≤ br_od g r s * 10; omega, by show br_od g r s * 10 ≤ 32000000; omega⟩
  | succ p ih =>
    intro hp
    have h1 := ih (by omega)
    unfold br_mo
    split
    · rename_i h
      have := br_od_bnd hg (br_Rok_app hr (show p < g.1 by omega) h.1 h5) s
      exact ⟨this.1, by show br_od g (br_app r p) s ≤ 32000000; omega⟩
    · exact h1
-- BEST: the row of a code, whether its pieces are unlike, the first of the greatest means
def br_dg (n m c i : Nat) : Nat := c / n ^ (m - 1 - i) % n
def br_rw (n m c : Nat) : br_Ro := (m, fun i => br_dg n m c i)
abbrev br_dst (n m c : Nat) : Prop := ∀ j : Nat, j < m → ∀ i : Nat, i < j → ¬ br_dg n m c i = br_dg n m c j
def br_bs (g : br_Gy) (m : Nat) : Nat → Option Nat
  | 0 => none
  | c + 1 => if br_dst g.1 m c then (match br_bs g m c with
    | none => some c
    | some c2 => if br_mh g (br_rw g.1 m c2) < br_mh g (br_rw g.1 m c) then some c else some c2) else br_bs g m c
def br_vBest (g : br_Gy) (m k : Int) : Int := match br_bs g m.toNat (g.1 ^ m.toNat) with
  | none => -1
  | some c => if k = 0 ∨ k = 1 then br_lo (br_mh g (br_rw g.1 m.toNat c)) 100 k else if k - 10 < m then (br_dg g.1 m.toNat c (k - 10).toNat : Nat) else -1
def br_sBest (A : br_A) (m k : Int) : Int × br_A := match A with
  | (w, g, r, c, t, n, b, u) => if ¬ ((1 ≤ m ∧ m ≤ 3) ∧ ((k = 0 ∨ k = 1) ∨ (10 ≤ k ∧ k ≤ 12))) then (-102, A) else if g.1 = 0 ∨ b = 30 then (-103, A) else (br_vBest g m k, (w, g, r, c, t, n, b + 1, u))
theorem br_Rok_rw {g : br_Gy} {m c : Nat} (hn : 0 < g.1) (hm : m ≤ 5) (hd : br_dst g.1 m c) : br_Rok g (br_rw g.1 m c) := by
  refine ⟨hm, fun j _ => Nat.mod_lt _ hn, fun i j hi hj e => ?_⟩
  rcases Nat.lt_trichotomy i j with h | h | h
  · exact absurd e (hd j hj i h)
  · exact h
  · exact absurd e.symm (hd i hi j h)
theorem br_bs_dst (g : br_Gy) (m : Nat) : ∀ (c c2 : Nat), br_bs g m c = some c2 → br_dst g.1 m c2 ∧ c2 < c := by
  intro c
  induction c with
  | zero => intro c2 h; cases h
  | succ c ih =>
    intro c2 h
    unfold br_bs at h
    by_cases hd : br_dst g.1 m c
    · rw [if_pos hd] at h
      cases hb : br_bs g m c with
      | none => rw [hb] at h; simp only [Option.some.injEq] at h; subst h; exact ⟨hd, by omega⟩
      | some c3 =>
        rw [hb] at h
        simp only at h
        split at h
        · simp only [Option.some.injEq] at h; subst h; exact ⟨hd, by omega⟩
        · simp only [Option.some.injEq] at h; subst h; have := ih c3 hb; exact ⟨this.1, by omega⟩
    · rw [if_neg hd] at h; have := ih c2 h; exact ⟨this.1, by omega⟩
theorem br_bs_found (g : br_Gy) (m : Nat) : ∀ (c c0 : Nat), c0 < c → br_dst g.1 m c0 → br_bs g m c ≠ none := by
  intro c
  induction c with
  | zero => intro c0 h; omega
  | succ c ih =>
    intro c0 h hd
    unfold br_bs
    by_cases hc : br_dst g.1 m c
    · rw [if_pos hc]
      cases br_bs g m c with
      | none => simp
      | some c3 => simp only; split <;> simp
    · rw [if_neg hc]
      rcases Nat.lt_or_ge c0 c with q | q
      · exact ih c0 q hd
      · rw [show c0 = c by omega] at hd; exact absurd hd hc
theorem br_bs_none (g : br_Gy) (m : Nat) : ∀ c : Nat, (∀ c0 : Nat, c0 < c → ¬ br_dst g.1 m c0) → br_bs g m c = none := by
  intro c
  induction c with
  | zero => intro _; rfl
  | succ c ih =>
    intro h
    unfold br_bs
    rw [if_neg (h c (by omega))]
    exact ih (fun c0 h0 => h c0 (by omega))
/-- where there are enough pieces there is one; else there is none -/
theorem br_bs_some {g : br_Gy} {m : Nat} (hg : g.1 ≤ 7) (h0 : 0 < g.1) (h1 : 1 ≤ m ∧ m ≤ 3) : (m ≤ g.1 → br_bs g m (g.1 ^ m) ≠ none) ∧ (¬ m ≤ g.1 → br_bs g m (g.1 ^ m) = none) := by
  have key : ∀ n : Fin 8, ∀ m : Fin 4, 0 < (n : Nat) → 1 ≤ (m : Nat) → (m : Nat) ≤ n → (∃ c0 : Fin 10, (c0 : Nat) < (n : Nat) ^ (m : Nat) ∧ br_dst n m c0) := by decide +kernel
  have key2 : ∀ n : Fin 3, ∀ m : Fin 4, 0 < (n : Nat) → 1 ≤ (m : Nat) → (n : Nat) < m → ∀ c0 : Fin 9, (c0 : Nat) < (n : Nat) ^ (m : Nat) → ¬ br_dst n m c0 := by decide +kernel
  have key3 : ∀ n : Fin 3, ∀ m : Fin 4, (n : Nat) ^ (m : Nat) ≤ 9 := by decide +kernel
  refine ⟨fun hm => ?_, fun hm => ?_⟩
  · obtain ⟨c0, hc, hd⟩ := key ⟨g.1, by omega⟩ ⟨m, by omega⟩ h0 h1.1 hm
    exact br_bs_found g m _ c0 hc hd
  · refine br_bs_none g m _ (fun c0 hc => ?_)
    have h9 := key3 ⟨g.1, by omega⟩ ⟨m, by omega⟩
    exact key2 ⟨g.1, by omega⟩ ⟨m, by omega⟩ h0 h1.1 (by show g.1 < m; omega) ⟨c0, Nat.lt_of_lt_of_le hc h9⟩ hc
theorem br_pow7 {n m : Nat} (hn : n ≤ 7) (hm : m ≤ 3) : n ^ m ≤ 343 := by
  have key : ∀ n : Fin 8, ∀ m : Fin 4, (n : Nat) ^ (m : Nat) ≤ 343 := by decide +kernel
  exact key ⟨n, by omega⟩ ⟨m, by omega⟩
-- MEETS
def br_nx (s : Int) : Int := (1103515245 * s + 12345) % 2147483648
def br_dw (s : Int) : Int := s / 65536 % 10
def br_in (g : br_Gy) (r : br_Ro) (s : Int) : Nat → Nat × Int
  | 0 => (0, s)
  | i + 1 => (if br_dw (br_nx (br_in g r s i).2) < br_cr g r i then (br_in g r s i).1 else (br_in g r s i).1 + 2 ^ i, br_nx (br_in g r s i).2)
def br_me (g : br_Gy) (r : br_Ro) (s : Int) : Nat → Int × Int × Int
  | 0 => (0, 20000, s)
  | n + 1 => ((br_me g r s n).1 + (if (br_in g r (br_me g r s n).2.2 r.1).1 = 0 then 1 else 0), (br_me g r s n).2.1 + br_pt g r (br_in g r (br_me g r s n).2.2 r.1).1, (br_in g r (br_me g r s n).2.2 r.1).2)
def br_vMeets (A : br_A) (n s k : Int) : Int := match A with
  | (_, g, r, _) => if ¬ ((1 ≤ n ∧ n ≤ 60) ∧ 0 ≤ s ∧ 0 ≤ k ∧ k ≤ 2) then -102 else if g.1 = 0 then -103 else if k = 0 then (br_me g r s n.toNat).1 else if k = 1 then (br_me g r s n.toNat).2.1 else (br_me g r s n.toNat).2.2
theorem br_nx_bnd (s : Int) : 0 ≤ br_nx s ∧ br_nx s < 2147483648 := by unfold br_nx; omega
theorem br_in_bnd (g : br_Gy) (r : br_Ro) {s : Int} (hs : 0 ≤ s ∧ s < 2147483648) : ∀ i : Nat, (br_in g r s i).1 < 2 ^ i ∧ 0 ≤ (br_in g r s i).2 ∧ (br_in g r s i).2 < 2147483648 := by
  intro i
  induction i with
  | zero => exact ⟨by show 0 < 1; omega, hs⟩
  | succ i ih =>
    have h2 := br_nx_bnd (br_in g r s i).2
    have hp : 2 ^ (i + 1) = 2 * 2 ^ i := by rw [Nat.pow_succ]; omega
    refine ⟨?_, h2⟩
    have h1 := ih.1
    show (if br_dw (br_nx (br_in g r s i).2) < br_cr g r i then (br_in g r s i).1 else (br_in g r s i).1 + 2 ^ i) < 2 ^ (i + 1)
    rw [hp]
    by_cases h : br_dw (br_nx (br_in g r s i).2) < br_cr g r i
    · rw [if_pos h]; exact Nat.lt_of_lt_of_le h1 (Nat.le_mul_of_pos_left _ (by decide))
    · rw [if_neg h, Nat.two_mul]; exact Nat.add_lt_add_right h1 _
theorem br_me_bnd (g : br_Gy) (r : br_Ro) {s : Int} (hs : 0 ≤ s ∧ s < 2147483648) : ∀ n : Nat, 0 ≤ (br_me g r s n).2.2 ∧ (br_me g r s n).2.2 < 2147483648 := by
  intro n
  induction n with
  | zero => exact hs
  | succ n ih => exact (br_in_bnd g r ih r.1).2
theorem br_or2 {f i : Nat} (hi : i < 5) (hf : f < 2 ^ i) : br_J f ||| br_J ((2 ^ i : Nat) : Int) = br_J ((f + 2 ^ i : Nat) : Int) := by
  have key : ∀ i : Fin 5, ∀ f : Fin 16, (f : Nat) < 2 ^ (i : Nat) → br_J (f : Nat) ||| br_J ((2 ^ (i : Nat) : Nat) : Int) = br_J (((f : Nat) + 2 ^ (i : Nat) : Nat) : Int) := by decide +kernel
  have h16 : ∀ i : Fin 5, 2 ^ (i : Nat) ≤ 16 := by decide +kernel
  exact key ⟨i, hi⟩ ⟨f, Nat.lt_of_lt_of_le hf (h16 ⟨i, hi⟩)⟩ hf
-- the digest
def br_mx (h : Int64) (x : Int32) : Int64 := br_K 31 * h + x.toInt64
def br_fold (f : Nat → Int32) (h : Int64) : Nat → Int64
  | 0 => h
  | n + 1 => br_mx (br_fold f h n) (f n)
def br_dP (A : br_A) : Nat → Int64
  | 0 => br_K 1033
  | p + 1 => br_fold (fun k => br_vPiece A p k) (br_dP A p) 7
def br_d2 (A : br_A) : Int64 := br_fold (fun k => br_J (A.2.2.1.2 k : Nat)) (br_dP A A.2.1.1) A.2.2.1.1
def br_d3 (A : br_A) : Int64 := if A.2.1.1 = 0 then br_d2 A else br_mx (br_mx (br_mx (br_mx (br_mx (br_d2 A) (br_J (br_vScore A 0))) (br_J (br_vMean A 0))) (br_J (br_vMean A 1))) (br_J (br_vOdds A 10 0))) (br_J (br_vOdds A 10 1))
def br_d4 (A : br_A) : Int64 := br_fold (fun k => br_J (A.1.2 k)) (br_d3 A) A.1.1
def br_vDigest (A : br_A) : Int64 := br_fold (fun k => br_J (br_vCount A k)) (br_d4 A) 10
